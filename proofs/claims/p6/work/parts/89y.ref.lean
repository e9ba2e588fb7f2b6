/-! the reference between two calls, with its bytes (my own text) -/
section LGY
variable {g : xe_G} {m0 : Nat} {q : Nat → Nat} {z : Nat × Nat} {kr : rR} {Ic : rI} {Rc : rR} {h9 : GH} {I I' : rI} {R R' : rR} {M : mi_H}
theorem RS.sI {z2 : Nat × Nat} {k : Nat} (h : RS g m0 q z I R M) (h2 : RS g m0 q z2 I' R' M) (hk : rx k = false) : I' k = I k := by
  have e := h.1.symm.trans h2.1
  simp only [Option.some.injEq, Sum.inr.injEq, Prod.mk.injEq, true_and] at e
  have e2 := congrFun e k
  unfold rfld at e2
  rw [if_neg (by rw [hk]; decide), if_neg (by rw [hk]; decide)] at e2
  cases h3 : I k with
  | none =>
    rw [h3] at e2
    cases h4 : I' k with
    | none => rfl
    | some y => rw [h4] at e2; cases e2
  | some x =>
    rw [h3] at e2
    cases h4 : I' k with
    | none => rw [h4] at e2; cases e2
    | some y =>
      rw [h4] at e2
      have e3 := Value.int.inj (Option.some.inj e2)
      rw [e3]
theorem RS.sR {z2 : Nat × Nat} {k : Nat} {t : FieldType × Nat} (h : RS g m0 q z I R M) (h2 : RS g m0 q z2 I' R' M) (hk : rt k = some t) : R' k = R k := by
  have e := (h.2.1 k t hk).symm.trans (h2.2.1 k t hk)
  simp only [Option.some.injEq, Sum.inl.injEq, Prod.mk.injEq, true_and] at e
  funext i
  have e2 := congrFun e i
  cases h3 : R k i with
  | none =>
    rw [h3] at e2
    cases h4 : R' k i with
    | none => rfl
    | some y => rw [h4] at e2; cases e2
  | some x =>
    rw [h3] at e2
    cases h4 : R' k i with
    | none => rw [h4] at e2; cases e2
    | some y =>
      rw [h4] at e2
      have e3 := Value.int.inj (Option.some.inj e2)
      rw [e3]
/-- the bytes that came, the file's, the last place, the row of names, what is kept -/
def XF (h9 : GH) (I : rI) (R : rR) : Prop := KX I R ∧ I 19 = some (nI h9.1) ∧ BX 15 h9.1 h9.2.1 I R ∧ I 17 = some (nI h9.2.2.2.1) ∧ BX 13 h9.2.2.2.1 h9.2.2.1 I R ∧ h9.2.2.2.1 ≤ 65540 ∧ I 73 = some h9.2.2.2.2.1 ∧ KPR h9.2.2.2.2.2 I R
theorem XF.mono (h : XF h9 I R) (hI : ∀ k, k ∈ [17, 19, 73, 18, 3, 8, 16, 49, 51, 52, 53, 25, 26, 54, 58, 61, 65, 66, 68, 69, 70, 71, 72] → I' k = I k) (hR : ∀ k, k ∈ [13, 15, 63, 64, 14, 1, 4, 5, 6, 7, 12, 21, 22, 28, 29, 35, 36, 27, 30, 31, 32, 33, 34, 37, 38, 39, 40, 41, 42, 43, 44, 45, 46] → R' k = R k) : XF h9 I' R' := by
  obtain ⟨a1, a2, a3, a4, a5, a6, a7, a8⟩ := h
  exact ⟨a1.mono (fun k hk => by cases hk) (fun k hk => hR k (by revert k; decide)), (hI 19 (by decide)).trans a2, a3.mono (fun k hk => by cases hk) (fun k hk => hR k (by revert k; decide)), (hI 17 (by decide)).trans a4, a5.mono (fun k hk => by cases hk) (fun k hk => hR k (by revert k; decide)), a6, (hI 73 (by decide)).trans a7, a8.mono (fun k hk => hI k (by revert k; decide)) (fun k hk => hR k (by revert k; decide))⟩
def XR (g : xe_G) (m0 : Nat) (q : Nat → Nat) (h9 : GH) (M : mi_H) : Prop := ∃ (z : Nat × Nat) (I : rI) (R : rR), RS g m0 q z I R M ∧ XF h9 I R
theorem XR.at (h : XR g m0 q h9 M) (hR : RS g m0 q z I R M) : XF h9 I R := by
  obtain ⟨z2, I2, R2, h1, h2⟩ := h
  refine h2.mono (fun k hk => h1.sI hR ?_) (fun k hk => ?_)
  · revert k
    decide
  · simp only [List.mem_cons, List.not_mem_nil, or_false] at hk
    rcases hk with rfl | rfl | rfl | rfl | rfl | rfl | rfl | rfl | rfl | rfl | rfl | rfl | rfl | rfl | rfl | rfl | rfl | rfl | rfl | rfl | rfl | rfl | rfl | rfl | rfl | rfl | rfl | rfl | rfl | rfl | rfl | rfl | rfl
    · exact h1.sR hR (k := 13) rfl
    · exact h1.sR hR (k := 15) rfl
    · exact h1.sR hR (k := 63) rfl
    · exact h1.sR hR (k := 64) rfl
    · exact h1.sR hR (k := 14) rfl
    · exact h1.sR hR (k := 1) rfl
    · exact h1.sR hR (k := 4) rfl
    · exact h1.sR hR (k := 5) rfl
    · exact h1.sR hR (k := 6) rfl
    · exact h1.sR hR (k := 7) rfl
    · exact h1.sR hR (k := 12) rfl
    · exact h1.sR hR (k := 21) rfl
    · exact h1.sR hR (k := 22) rfl
    · exact h1.sR hR (k := 28) rfl
    · exact h1.sR hR (k := 29) rfl
    · exact h1.sR hR (k := 35) rfl
    · exact h1.sR hR (k := 36) rfl
    · exact h1.sR hR (k := 27) rfl
    · exact h1.sR hR (k := 30) rfl
    · exact h1.sR hR (k := 31) rfl
    · exact h1.sR hR (k := 32) rfl
    · exact h1.sR hR (k := 33) rfl
    · exact h1.sR hR (k := 34) rfl
    · exact h1.sR hR (k := 37) rfl
    · exact h1.sR hR (k := 38) rfl
    · exact h1.sR hR (k := 39) rfl
    · exact h1.sR hR (k := 40) rfl
    · exact h1.sR hR (k := 41) rfl
    · exact h1.sR hR (k := 42) rfl
    · exact h1.sR hR (k := 43) rfl
    · exact h1.sR hR (k := 44) rfl
    · exact h1.sR hR (k := 45) rfl
    · exact h1.sR hR (k := 46) rfl
/-- the reference between two calls -/
def REFX (g : xe_G) (m0 : Nat) (q : Nat → Nat) (z : Nat × Nat) (kr : rR) (Ic : rI) (Rc : rR) (h9 : GH) (M : mi_H) : Prop := REF g m0 q z kr Ic Rc h9.1 M ∧ XR g m0 q h9 M
theorem REFX.room {z' : Nat × Nat} (h : REFX g m0 q z kr Ic Rc h9 M) : REFX g m0 q z' kr Ic Rc h9 (M.1, z') := by
  refine ⟨REF.room h.1, ?_⟩
  obtain ⟨z2, I, R, ⟨h1, h2, h3, h4, h5, h6⟩, hr⟩ := h.2
  exact ⟨z', I, R, ⟨h1, h2, h3, h4, rfl, h6⟩, hr⟩
theorem REFX.cell (h : REFX g m0 q z kr Ic Rc h9 M) : ∃ F, M.1 m0 = some (.inr (12, F)) := h.1.cell
theorem rx_count {x1 : Int32} (h : REFX g m0 q z kr Ic Rc h9 M) {d : Nat} (hd : 3 ≤ d) : mt (mT g) d 198 [.ref m0, .int x1] M (fun v M' => (∃ x : Int32, v = some (.int x)) ∧ REFX g m0 q z kr Ic Rc h9 M') := by
  obtain ⟨⟨I, R, kn, co, n, f, hR, hK, h74, hQ⟩, hX⟩ := h
  have hX := hX.at hR
  refine (rm_count hR hK.k18 hK.gd hd).imp (fun v M' hq => ?_)
  obtain ⟨x, I', R', rfl, h1, h2, h3⟩ := hq
  exact ⟨⟨x, rfl⟩, ⟨I', R', kn, co, n, f, h1, hK.mono (cIx h2 (by decide)) (cRx h3 (by decide)), (h2 74 (by decide)).trans h74, hQ.mono (cIx h2 (by decide)) (cRx h3 (by decide))⟩, _, I', R', h1, hX.mono (cIx h2 (by decide)) (cRx h3 (by decide))⟩
theorem rx_entry {x1 x2 : Int32} (h : REFX g m0 q z kr Ic Rc h9 M) {d : Nat} (hd : 4 ≤ d) : mt (mT g) d 204 [.ref m0, .int x1, .int x2] M (fun v M' => (∃ x : Int32, v = some (.int x)) ∧ REFX g m0 q z kr Ic Rc h9 M') := by
  obtain ⟨⟨I, R, kn, co, n, f, hR, hK, h74, hQ⟩, hX⟩ := h
  have hX := hX.at hR
  refine (rm_entry hR hK.k18 hK.gd hd).imp (fun v M' hq => ?_)
  obtain ⟨x, I', R', rfl, h1, h2, h3⟩ := hq
  exact ⟨⟨x, rfl⟩, ⟨I', R', kn, co, n, f, h1, hK.mono (cIx h2 (by decide)) (cRx h3 (by decide)), (h2 74 (by decide)).trans h74, hQ.mono (cIx h2 (by decide)) (cRx h3 (by decide))⟩, _, I', R', h1, hX.mono (cIx h2 (by decide)) (cRx h3 (by decide))⟩
theorem rx_character_w {x1 x2 : Int32} (h : REFX g m0 q z kr Ic Rc h9 M) {d : Nat} (hd : 3 ≤ d) : mt (mT g) d 186 [.ref m0, .int x1, .int x2] M (fun v M' => (∃ x : Int32, v = some (.int x)) ∧ REFX g m0 q z kr Ic Rc h9 M') := by
  obtain ⟨⟨I, R, kn, co, n, f, hR, hK, h74, hQ⟩, hX⟩ := h
  have hX := hX.at hR
  refine (rm_character hR hK.k18 hK.gd hd).imp (fun v M' hq => ?_)
  obtain ⟨x, I', R', rfl, h1, h2, h3⟩ := hq
  exact ⟨⟨x, rfl⟩, ⟨I', R', kn, co, n, f, h1, hK.mono (cIx h2 (by decide)) (cRx h3 (by decide)), (h2 74 (by decide)).trans h74, hQ.mono (cIx h2 (by decide)) (cRx h3 (by decide))⟩, _, I', R', h1, hX.mono (cIx h2 (by decide)) (cRx h3 (by decide))⟩
theorem rx_character {x1 x2 : Int32} (h : REFX g m0 q z kr Ic Rc h9 M) {d : Nat} (hd : 3 ≤ d) : mt (mT g) d 186 [.ref m0, .int x1, .int x2] M (fun v M' => v = some (.int (chK h9.2.2.2.2.2 x1 x2)) ∧ REFX g m0 q z kr Ic Rc h9 M') := by
  obtain ⟨I, R, kn, co, n, f, hR, hK, h74, hQ⟩ := id h.1
  have hX := h.2.at hR
  refine ((rx_character_w h hd).also (rd_character (k := x1) (i := x2) hR hX.2.2.2.2.2.2.2)).imp (fun v M' hq => ?_)
  obtain ⟨⟨-, h1⟩, I', R', hv, -⟩ := hq
  exact ⟨hv, h1⟩
theorem rx_member {x1 x2 x3 : Int32} (h : REFX g m0 q z kr Ic Rc h9 M) {d : Nat} (hd : 5 ≤ d) : mt (mT g) d 223 [.ref m0, .int x1, .int x2, .int x3] M (fun v M' => (∃ x : Int32, v = some (.int x)) ∧ REFX g m0 q z kr Ic Rc h9 M') := by
  obtain ⟨⟨I, R, kn, co, n, f, hR, hK, h74, hQ⟩, hX⟩ := h
  have hX := hX.at hR
  refine (rm_member hR hK.k18 hK.gd hd).imp (fun v M' hq => ?_)
  obtain ⟨x, I', R', rfl, h1, h2, h3⟩ := hq
  exact ⟨⟨x, rfl⟩, ⟨I', R', kn, co, n, f, h1, hK.mono (cIx h2 (by decide)) (cRx h3 (by decide)), (h2 74 (by decide)).trans h74, hQ.mono (cIx h2 (by decide)) (cRx h3 (by decide))⟩, _, I', R', h1, hX.mono (cIx h2 (by decide)) (cRx h3 (by decide))⟩
theorem rx_find {x1 x2 x3 : Int32} (h : REFX g m0 q z kr Ic Rc h9 M) {d : Nat} (hd : 3 ≤ d) : mt (mT g) d 207 [.ref m0, .int x1, .int x2, .int x3] M (fun v M' => (∃ x : Int32, v = some (.int x)) ∧ REFX g m0 q z kr Ic Rc h9 M') := by
  obtain ⟨⟨I, R, kn, co, n, f, hR, hK, h74, hQ⟩, hX⟩ := h
  have hX := hX.at hR
  refine (rm_find hR hK.k18 hK.gd hd).imp (fun v M' hq => ?_)
  obtain ⟨x, I', R', rfl, h1, h2, h3⟩ := hq
  exact ⟨⟨x, rfl⟩, ⟨I', R', kn, co, n, f, h1, hK.mono (cIx h2 (by decide)) (cRx h3 (by decide)), (h2 74 (by decide)).trans h74, hQ.mono (cIx h2 (by decide)) (cRx h3 (by decide))⟩, _, I', R', h1, hX.mono (cIx h2 (by decide)) (cRx h3 (by decide))⟩
theorem rx_row {x1 x2 x3 : Int32} (h : REFX g m0 q z kr Ic Rc h9 M) {d : Nat} (hd : 3 ≤ d) : mt (mT g) d 239 [.ref m0, .int x1, .int x2, .int x3] M (fun v M' => (∃ x : Int32, v = some (.int x)) ∧ REFX g m0 q z kr Ic Rc h9 M') := by
  obtain ⟨⟨I, R, kn, co, n, f, hR, hK, h74, hQ⟩, hX⟩ := h
  have hX := hX.at hR
  refine (rm_row hR hK.k18 hK.gd hd).imp (fun v M' hq => ?_)
  obtain ⟨x, I', R', rfl, h1, h2, h3⟩ := hq
  exact ⟨⟨x, rfl⟩, ⟨I', R', kn, co, n, f, h1, hK.mono (cIx h2 (by decide)) (cRx h3 (by decide)), (h2 74 (by decide)).trans h74, hQ.mono (cIx h2 (by decide)) (cRx h3 (by decide))⟩, _, I', R', h1, hX.mono (cIx h2 (by decide)) (cRx h3 (by decide))⟩
theorem rx_bootstrap {x1 x2 : Int32} (h : REFX g m0 q z kr Ic Rc h9 M) {d : Nat} (hd : 3 ≤ d) : mt (mT g) d 184 [.ref m0, .int x1, .int x2] M (fun v M' => (∃ x : Int32, v = some (.int x)) ∧ REFX g m0 q z kr Ic Rc h9 M') := by
  obtain ⟨⟨I, R, kn, co, n, f, hR, hK, h74, hQ⟩, hX⟩ := h
  have hX := hX.at hR
  refine (rm_bootstrap hR hK.k18 hK.gd hd).imp (fun v M' hq => ?_)
  obtain ⟨x, I', R', rfl, h1, h2, h3⟩ := hq
  exact ⟨⟨x, rfl⟩, ⟨I', R', kn, co, n, f, h1, hK.mono (cIx h2 (by decide)) (cRx h3 (by decide)), (h2 74 (by decide)).trans h74, hQ.mono (cIx h2 (by decide)) (cRx h3 (by decide))⟩, _, I', R', h1, hX.mono (cIx h2 (by decide)) (cRx h3 (by decide))⟩
theorem rx_places {x1 : Int32} (h : REFX g m0 q z kr Ic Rc h9 M) {d : Nat} (hd : 6 ≤ d) : mt (mT g) d 232 [.ref m0, .int x1] M (fun v M' => (∃ x : Int32, v = some (.int x)) ∧ REFX g m0 q z kr Ic Rc h9 M') := by
  obtain ⟨⟨I, R, kn, co, n, f, hR, hK, h74, hQ⟩, hX⟩ := h
  have hX := hX.at hR
  refine (rm_places hR hK.k18 hK.gd hd).imp (fun v M' hq => ?_)
  obtain ⟨x, I', R', rfl, h1, h2, h3⟩ := hq
  exact ⟨⟨x, rfl⟩, ⟨I', R', kn, co, n, f, h1, hK.mono (cIx h2 (by decide)) (cRx h3 (by decide)), (h2 74 (by decide)).trans h74, hQ.mono (cIx h2 (by decide)) (cRx h3 (by decide))⟩, _, I', R', h1, hX.mono (cIx h2 (by decide)) (cRx h3 (by decide))⟩
theorem rx_bits {x1 : Int32} (h : REFX g m0 q z kr Ic Rc h9 M) {d : Nat} (hd : 4 ≤ d) : mt (mT g) d 183 [.ref m0, .int x1] M (fun v M' => (∃ x : Int64, v = some (.long x)) ∧ REFX g m0 q z kr Ic Rc h9 M') := by
  obtain ⟨⟨I, R, kn, co, n, f, hR, hK, h74, hQ⟩, hX⟩ := h
  have hX := hX.at hR
  refine (rm_bits hR hK.k18 hK.gd hd).imp (fun v M' hq => ?_)
  obtain ⟨x, I', R', rfl, h1, h2, h3⟩ := hq
  exact ⟨⟨x, rfl⟩, ⟨I', R', kn, co, n, f, h1, hK.mono (cIx h2 (by decide)) (cRx h3 (by decide)), (h2 74 (by decide)).trans h74, hQ.mono (cIx h2 (by decide)) (cRx h3 (by decide))⟩, _, I', R', h1, hX.mono (cIx h2 (by decide)) (cRx h3 (by decide))⟩
theorem rx_place (h : REFX g m0 q z kr Ic Rc h9 M) {d : Nat} (hd : 1 ≤ d) : mt (mT g) d 231 [.ref m0] M (fun v M' => v = some (.int h9.2.2.2.2.1) ∧ REFX g m0 q z kr Ic Rc h9 M') := by
  obtain ⟨⟨I, R, kn, co, n, f, hR, hK, h74, hQ⟩, hX⟩ := h
  have hX := hX.at hR
  refine ((rm_place hR hX.2.2.2.2.2.2.1 hd).also (rd_place hR hX.2.2.2.2.2.2.1)).imp (fun v M' hq => ?_)
  obtain ⟨⟨x, I', R', rfl, h1, h2, h3⟩, I2, R2, hv, -⟩ := hq
  exact ⟨hv, ⟨I', R', kn, co, n, f, h1, hK.mono (cIx h2 (by decide)) (cRx h3 (by decide)), (h2 74 (by decide)).trans h74, hQ.mono (cIx h2 (by decide)) (cRx h3 (by decide))⟩, _, I', R', h1, hX.mono (cIx h2 (by decide)) (cRx h3 (by decide))⟩
theorem rx_cut {x1 : Int32} (h : REFX g m0 q z kr Ic Rc h9 M) {d : Nat} (hd : 8 ≤ d) : mt (mT g) d 199 [.ref m0, .int x1] M (fun v M' => (∃ x : Int32, v = some (.int x)) ∧ REFX g m0 q z kr Ic Rc h9 M') := by
  obtain ⟨⟨I, R, kn, co, n, f, hR, hK, h74, hQ⟩, hX⟩ := h
  have hX := hX.at hR
  obtain ⟨si, h9⟩ := hK.k9 (k := 9) (by decide)
  refine (rm_cut hR hK.k18 h74 h9 hQ hK.gd hd).imp (fun v M' hq => ?_)
  obtain ⟨x, I', R', rfl, h1, h2, h3, c, h4, h5⟩ := hq
  exact ⟨⟨x, rfl⟩, ⟨I', R', kn, c, n, f, h1, hK.mono (cIx h2 (by decide)) (cRx h3 (by decide)), h4, h5⟩, _, I', R', h1, hX.mono (cIx h2 (by decide)) (cRx h3 (by decide))⟩
theorem rx_instruction {x1 x2 x3 : Int32} (h : REFX g m0 q z kr Ic Rc h9 M) {d : Nat} (hd : 8 ≤ d) : mt (mT g) d 215 [.ref m0, .int x1, .int x2, .int x3] M (fun v M' => (∃ x : Int32, v = some (.int x)) ∧ REFX g m0 q z kr Ic Rc h9 M') := by
  obtain ⟨⟨I, R, kn, co, n, f, hR, hK, h74, hQ⟩, hX⟩ := h
  have hX := hX.at hR
  obtain ⟨si, h9⟩ := hK.k9 (k := 9) (by decide)
  refine (rm_instruction hR hK.k18 h74 h9 hQ hK.gd hd).imp (fun v M' hq => ?_)
  obtain ⟨x, I', R', rfl, h1, h2, h3, c, h4, h5⟩ := hq
  exact ⟨⟨x, rfl⟩, ⟨I', R', kn, c, n, f, h1, hK.mono (cIx h2 (by decide)) (cRx h3 (by decide)), h4, h5⟩, _, I', R', h1, hX.mono (cIx h2 (by decide)) (cRx h3 (by decide))⟩
theorem rx_jump {x1 x2 x3 x4 : Int32} (h : REFX g m0 q z kr Ic Rc h9 M) {d : Nat} (hd : 8 ≤ d) : mt (mT g) d 220 [.ref m0, .int x1, .int x2, .int x3, .int x4] M (fun v M' => (∃ x : Int32, v = some (.int x)) ∧ REFX g m0 q z kr Ic Rc h9 M') := by
  obtain ⟨⟨I, R, kn, co, n, f, hR, hK, h74, hQ⟩, hX⟩ := h
  have hX := hX.at hR
  obtain ⟨si, h9⟩ := hK.k9 (k := 9) (by decide)
  refine (rm_jump hR hK.k18 h74 h9 hQ hK.gd hd).imp (fun v M' hq => ?_)
  obtain ⟨x, I', R', rfl, h1, h2, h3, c, h4, h5⟩ := hq
  exact ⟨⟨x, rfl⟩, ⟨I', R', kn, c, n, f, h1, hK.mono (cIx h2 (by decide)) (cRx h3 (by decide)), h4, h5⟩, _, I', R', h1, hX.mono (cIx h2 (by decide)) (cRx h3 (by decide))⟩
theorem rx_feed {x1 x2 x3 x4 x5 : Int32} (h : REFX g m0 q z kr Ic Rc h9 M) (hcc : h9.1 + 20 ≤ 65540) {d : Nat} (hd : 2 ≤ d) : mt (mT g) d 205 [.ref m0, .int x1, .int x2, .int x3, .int x4, .int x5] M (fun v M' => v = some (.int (nI (h9.1 + 20))) ∧ REFX g m0 q z kr Ic Rc (fdG h9 x1 x2 x3 x4 x5) M' ∧ ∃ I R, RS g m0 q z I R M' ∧ I 0 = some 0) := by
  obtain ⟨I, R, kn, co, n, f, hR, hK, h74, hQ⟩ := id h.1
  obtain ⟨a1, a2, a3, a4, a5, a6, a7, a8⟩ := h.2.at hR
  refine ((rf_feed h.1 hcc hd).also (rd_feed (x1 := x1) (x2 := x2) (x3 := x3) (x4 := x4) (x5 := x5) hR a2 a3 hcc)).imp (fun v M' hq => ?_)
  obtain ⟨⟨hv, h1, h2⟩, I', R', -, b1, b2, b3, b4, b5⟩ := hq
  refine ⟨hv, ⟨h1, _, I', R', b1, a1.mono (fun k hk => by cases hk) (cRx b3 (by decide)), b4, b5, (b2 17 (by decide)).trans a4, a5.mono (fun k hk => by cases hk) (cRx b3 (by decide)), a6, (b2 73 (by decide)).trans a7, a8.mono (cIx b2 (by decide)) (cRx b3 (by decide))⟩, h2⟩
theorem rx_endno {x1 : Int32} (h : REFX g m0 q z kr Ic Rc h9 M) (hcc : h9.1 ≤ 65540) (hbad : x1 < 0 ∨ ¬ x1 ≤ nI h9.1) (hno : ¬ (0 ≤ x1.toInt ∧ x1.toInt ≤ h9.1)) {d : Nat} (hd : 2 ≤ d) : mt (mT g) d 202 [.ref m0, .int x1] M (fun v M' => (∃ x : Int32, v = some (.int x)) ∧ REFX g m0 q z kr Ic Rc h9 M' ∧ ∃ I R, RS g m0 q z I R M' ∧ I 0 = some 1) := by
  obtain ⟨I, R, kn, co, n, f, hR, hK, h74, hQ⟩ := id h.1
  have hX := h.2.at hR
  refine ((rf_end (x1 := x1) h.1 hcc hd).also (rd_endno hR hX.2.1 hcc hbad)).imp (fun v M' hq => ?_)
  obtain ⟨⟨hv, h1⟩, I', R', -, b1, b2, b3⟩ := hq
  rcases h1 with ⟨-, h1, h2⟩ | ⟨h1, -⟩
  · exact ⟨hv, ⟨h1, _, I', R', b1, hX.mono (cIx b2 (by decide)) (cRx b3 (by decide))⟩, h2⟩
  · exact absurd h1 hno
theorem rx_endok {x1 : Int32} (h : REFX g m0 q z kr Ic Rc h9 M) (hcc : h9.1 ≤ 65540) (hok : 0 ≤ x1.toInt ∧ x1.toInt ≤ h9.1) {d : Nat} (hd : 2 ≤ d) : mt (mT g) d 202 [.ref m0, .int x1] M (fun v M' => v = some (.int x1) ∧ REFX g m0 q z kr Ic Rc (enG h9 (Int32.toNatClampNeg x1)) M' ∧ ∃ I R, RS g m0 q z I R M' ∧ I 0 = some 0) := by
  obtain ⟨I, R, kn, co, n, f, hR, hK, h74, hQ⟩ := id h.1
  obtain ⟨a1, a2, a3, a4, a5, a6, a7, a8⟩ := h.2.at hR
  obtain ⟨k, hk⟩ : ∃ k : Nat, k = Int32.toNatClampNeg x1 := ⟨_, rfl⟩
  have hk0 : (k : Int) = x1.toInt := by
    rw [hk]
    show ((x1.toInt.toNat : Nat) : Int) = _
    omega
  have ex : x1 = nI k := Int32.toInt_inj.mp (by rw [nI_val (by omega)]; exact hk0.symm)
  have hkc : k ≤ h9.1 := by omega
  rw [← hk]
  have q1 := rf_end (x1 := x1) h.1 hcc hd
  rw [ex] at q1 hok ⊢
  refine (q1.also (rd_endok (k := k) hR a2 a3 hcc hkc)).imp (fun v M' hq => ?_)
  obtain ⟨⟨hv, h1⟩, I', R', -, b1, b2, b3, b4, b5, b6⟩ := hq
  rcases h1 with ⟨h1, -⟩ | ⟨-, h1, hv2, h2⟩
  · exact absurd hok h1
  · refine ⟨hv2, ⟨h1, _, I', R', b1, a1.mono (fun k hk => by cases hk) (cRx b3 (by decide)), b5, fun i hi => absurd hi (Nat.not_lt_zero i), b4, b6.cg (fun i hi => if_pos hi), (by show k ≤ 65540; omega), (b2 73 (by decide)).trans a7, a8.mono (cIx b2 (by decide)) (cRx b3 (by decide))⟩, h2⟩
theorem rx_read (h : REFX g m0 q z kr Ic Rc h9 M) {d : Nat} (hd : 11 ≤ d) : mt (mT g) d 236 [.ref m0] M (fun v M' => v = some (.int (rdR (s_read h9.2.2.1 h9.2.2.2.1))) ∧ REFX g m0 q z kr Ic Rc (rdG h9) M') := by
  obtain ⟨I, R, kn, co, n, f, hR, hK, h74, hQ⟩ := id h.1
  obtain ⟨a1, a2, a3, a4, a5, a6, a7, a8⟩ := h.2.at hR
  obtain ⟨ko, hko⟩ : ∃ ko, ko = h9.2.2.2.2.2 := ⟨_, rfl⟩
  rw [← hko] at a8
  cases ko with
  | none =>
    obtain ⟨k1, h18, hk1⟩ := a8
    refine ((rf_read h.1 hd).also (rd_read2a hR hK.1 a4 h18 a5 a1 a6 hk1)).imp (fun v M' hq => ?_)
    obtain ⟨⟨-, h1⟩, hq⟩ := hq
    rcases hq with ⟨I', R', s1, hv, b1, b2, b3, b4, b5, b6, b7, b8⟩ | ⟨e9, I', R', s1, hv, b1, b2, b3, b4, b5, b6⟩
    · refine ⟨by rw [hv, s1]; rfl, h1, _, I', R', b1, a1.mono (fun k hk => by cases hk) (cRx b3 (by decide)), (b2 19 (by decide)).trans a2, a3.mono (fun k hk => by cases hk) (cRx b3 (by decide)), b5, fun i hi => absurd hi (Nat.not_lt_zero i), Nat.zero_le _, ?_, ?_⟩
      · show I' 73 = some (rdP (s_read h9.2.2.1 h9.2.2.2.1))
        rw [s1]
        exact b4
      · show KPR (match s_read h9.2.2.1 h9.2.2.2.1 with | none => some (h9.2.2.2.1, h9.2.2.1) | some _ => h9.2.2.2.2.2) I' R'
        rw [s1]
        exact ⟨b6, a6, b8, s1, b7⟩
    · refine ⟨by rw [hv, s1]; rfl, h1, _, I', R', b1, a1.mono (fun k hk => by cases hk) (cRx b3 (by decide)), (b2 19 (by decide)).trans a2, a3.mono (fun k hk => by cases hk) (cRx b3 (by decide)), b5, fun i hi => absurd hi (Nat.not_lt_zero i), Nat.zero_le _, ?_, ?_⟩
      · show I' 73 = some (rdP (s_read h9.2.2.1 h9.2.2.2.1))
        rw [s1]
        exact b4
      · show KPR (match s_read h9.2.2.1 h9.2.2.2.1 with | none => some (h9.2.2.2.1, h9.2.2.1) | some _ => h9.2.2.2.2.2) I' R'
        rw [s1]
        dsimp only
        rw [← hko]
        exact ⟨k1, b6, hk1⟩
  | some p =>
    obtain ⟨h18, hp, h14, hsr, -⟩ := a8
    refine ((rf_read h.1 hd).also (rd_read2b (f2 := p.2) (n2 := p.1) hR hK.1 a4 h18 a5 a1 h14 a6 hp hsr)).imp (fun v M' hq => ?_)
    obtain ⟨⟨-, h1⟩, hq⟩ := hq
    rcases hq with ⟨I', R', s1, hv, b1, b2, b3, b4, b5, b6, b7, b8⟩ | ⟨e9, I', R', s1, hv, b1, b2, b3, b4, b5, b6, b7, b8⟩
    · refine ⟨by rw [hv, s1]; rfl, h1, _, I', R', b1, a1.mono (fun k hk => by cases hk) (cRx b3 (by decide)), (b2 19 (by decide)).trans a2, a3.mono (fun k hk => by cases hk) (cRx b3 (by decide)), b5, fun i hi => absurd hi (Nat.not_lt_zero i), Nat.zero_le _, ?_, ?_⟩
      · show I' 73 = some (rdP (s_read h9.2.2.1 h9.2.2.2.1))
        rw [s1]
        exact b4
      · show KPR (match s_read h9.2.2.1 h9.2.2.2.1 with | none => some (h9.2.2.2.1, h9.2.2.1) | some _ => h9.2.2.2.2.2) I' R'
        rw [s1]
        exact ⟨b6, a6, b8, s1, b7⟩
    · refine ⟨by rw [hv, s1]; rfl, h1, _, I', R', b1, a1.mono (fun k hk => by cases hk) (cRx b3 (by decide)), (b2 19 (by decide)).trans a2, a3.mono (fun k hk => by cases hk) (cRx b3 (by decide)), b5, fun i hi => absurd hi (Nat.not_lt_zero i), Nat.zero_le _, ?_, ?_⟩
      · show I' 73 = some (rdP (s_read h9.2.2.1 h9.2.2.2.1))
        rw [s1]
        exact b4
      · show KPR (match s_read h9.2.2.1 h9.2.2.2.1 with | none => some (h9.2.2.2.1, h9.2.2.1) | some _ => h9.2.2.2.2.2) I' R'
        rw [s1]
        dsimp only
        rw [← hko]
        exact ⟨b6, hp, b8, hsr, b7⟩
theorem KX09 : KX I09 R09 := by
  have h : ∀ i, i < 10 → R09 63 i = some (nI (kiN i)) ∧ R09 64 i = some (nI (kfN i)) := by decide +kernel
  exact h
theorem rx_init {g : xe_G} {m0 : Nat} {M : mi_H} {F0 : Nat → Option Value} (h0 : M.1 m0 = some (.inr (12, F0))) (hF0 : ∀ k, rx k = false → F0 k = (I00 k).map Value.int) (hm : m0 < M.2.1) (hlt : ∀ k, rlk k → g.2.1 k < M.2.1) (hlm : ∀ k, rlk k → g.2.1 k ≠ m0) (hlit : ∀ k, rlk k → ∃ f, M.1 (g.2.1 k) = some (.inr (100 + k, f))) {d : Nat} (hd : 4 ≤ d) : mt (mT g) d 173 [.ref m0] M (fun v M' => v = none ∧ M'.2 = (M.2.1 + 39, M.2.2 + 898568) ∧ ∃ (Ic : rI) (Rc : rR) (M1 : mi_H), hle M1 M' ∧ REFX g m0 (qf M.2.1) M'.2 R09 Ic Rc (0, fun _ => 0, fun _ => 0, 0, -1, none) M1) := by
  refine (rm_init h0 hF0 hm hlt hlm hlit hd).imp (fun v M' hq => ?_)
  obtain ⟨rfl, I', R', M1, h1, h2, h3, h4, h5, h6⟩ := hq
  obtain ⟨Ic, Rc, hcan⟩ := can_ex h1 R09
  have h9 : ∃ a, I' 9 = some a := by
    obtain ⟨S, cN, -, -, -, h, -⟩ := h6
    exact h
  refine ⟨rfl, h3, Ic, Rc, M1, h2, ⟨I', R', -1, -1, 0, fun _ => 0, h1, ⟨(h4 49 (by decide)).trans rfl, fun k hk => ?_, KW09.mono (fun k hk => by cases hk) (cRx h5 (by decide)), h5 63 (by decide), h5 64 (by decide), hcan, (h4 19 (by decide)).trans rfl, fun i hi => absurd hi (Nat.not_lt_zero i), ⟨0, by omega, (h4 17 (by decide)).trans rfl, fun i hi => absurd hi (Nat.not_lt_zero i)⟩, (h4 18 (by decide)).trans rfl, Or.inl (by decide)⟩, (h4 74 (by decide)).trans rfl, Or.inl rfl⟩, _, I', R', h1, KX09.mono (fun k hk => by cases hk) (cRx h5 (by decide)), (h4 19 (by decide)).trans rfl, fun i hi => absurd hi (Nat.not_lt_zero i), (h4 17 (by decide)).trans rfl, fun i hi => absurd hi (Nat.not_lt_zero i), Nat.zero_le _, (h4 73 (by decide)).trans rfl, ⟨-1, (h4 18 (by decide)).trans rfl, by decide⟩⟩
  simp only [List.mem_cons, List.not_mem_nil, or_false] at hk
  rcases hk with rfl | rfl | rfl | rfl
  · exact h9
  · exact ⟨0, (h4 47 (by decide)).trans rfl⟩
  · exact ⟨0, (h4 48 (by decide)).trans rfl⟩
  · exact ⟨-1, (h4 73 (by decide)).trans rfl⟩
end LGY
theorem REFX.z {g : xe_G} {m0 : Nat} {q : Nat → Nat} {z : Nat × Nat} {kr : rR} {Ic : rI} {Rc : rR} {h9 : GH} {M : mi_H} (h : REFX g m0 q z kr Ic Rc h9 M) : M.2 = z := h.1.z
