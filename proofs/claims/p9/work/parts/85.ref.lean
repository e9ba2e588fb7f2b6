/-! the reference: between calls (laid by wip/p2/c85.py) -/
section MIB7
def RK (g : xe_G) (m0 : Nat) (q : Nat → Nat) (kr : rR) (Ic : rI) (Rc : rR) (cc : Nat) (kn : Int32) (n : Nat) (f : Nat → Int32) (I : rI) (R : rR) : Prop :=
  I 49 = some 0 ∧ (∀ k, k ∈ [9, 47, 48, 73] → ∃ a, I k = some a) ∧ KW I R ∧ R 63 = kr 63 ∧ R 64 = kr 64 ∧ CAN g m0 q kr Ic Rc ∧ I 19 = some (nI cc) ∧ KB 15 cc R ∧ (∃ nf : Nat, nf ≤ 65540 ∧ I 17 = some (nI nf) ∧ KB 13 nf R) ∧ I 18 = some kn ∧ (kn < 0 ∨ KEP g m0 q Ic Rc n f kn R ∧ GD n f I R)
def RKI : List Nat := [9, 17, 18, 19, 47, 48, 49, 73, 3, 8, 16, 25, 26, 51, 52, 53, 54, 58, 61, 65, 66, 67, 68, 69, 70, 71, 72]
def RKR : List Nat := [13, 14, 15, 63, 64, 1, 4, 5, 12, 21, 22, 27, 28, 29, 30, 31, 32, 33, 34, 35, 36, 37, 38, 39, 40, 41, 42, 43, 44, 45, 46]
variable {g : xe_G} {m0 : Nat} {q : Nat → Nat} {z : Nat × Nat} {kr : rR} {Ic : rI} {Rc : rR} {cc : Nat} {kn co : Int32} {n : Nat} {f : Nat → Int32} {I I' : rI} {R R' : rR} {M : mi_H}
theorem RK.mono (h : RK g m0 q kr Ic Rc cc kn n f I R) (hI : ∀ k, k ∈ RKI → I' k = I k) (hR : ∀ k, k ∈ RKR → R' k = R k) : RK g m0 q kr Ic Rc cc kn n f I' R' := by
  obtain ⟨h49, hk, hK, h63, h64, hcan, h19, hb, ⟨nf, a1, a2, a3⟩, h18, hG⟩ := h
  refine ⟨(hI 49 (by decide)).trans h49, fun k hk2 => ?_, hK.mono (fun k hk => by cases hk) (fun k hk => hR k (by revert k; decide)), (hR 63 (by decide)).trans h63, (hR 64 (by decide)).trans h64, hcan, (hI 19 (by decide)).trans h19, hb.eq (hR 15 (by decide)), ⟨nf, a1, (hI 17 (by decide)).trans a2, a3.eq (hR 13 (by decide))⟩, (hI 18 (by decide)).trans h18, hG.imp id (fun ⟨b1, b2⟩ => ⟨⟨b1.1, b1.2.1, fun i hi => by rw [hR 14 (by decide)]; exact b1.2.2.1 i hi, b1.2.2.2⟩, b2.mono (fun k hk => hI k (by revert k; decide)) (fun k hk => hR k (by revert k; decide))⟩)⟩
  rw [hI k (by revert k; decide)]
  exact hk k hk2
/-- the reference between two calls: cc bytes have come -/
def REF (g : xe_G) (m0 : Nat) (q : Nat → Nat) (z : Nat × Nat) (kr : rR) (Ic : rI) (Rc : rR) (cc : Nat) (M : mi_H) : Prop := ∃ (I : rI) (R : rR) (kn co : Int32) (n : Nat) (f : Nat → Int32), RS g m0 q z I R M ∧ RK g m0 q kr Ic Rc cc kn n f I R ∧ I 74 = some co ∧ CUO f n co I R
theorem RK.gd (h : RK g m0 q kr Ic Rc cc kn n f I R) : kn < 0 ∨ GD n f I R := h.2.2.2.2.2.2.2.2.2.2.imp id (fun h => h.2)
theorem RK.k18 (h : RK g m0 q kr Ic Rc cc kn n f I R) : I 18 = some kn := h.2.2.2.2.2.2.2.2.2.1
theorem RK.k9 (h : RK g m0 q kr Ic Rc cc kn n f I R) {k : Nat} (hk : k ∈ [9, 47, 48, 73]) : ∃ a, I k = some a := h.2.1 k hk
theorem mt.imp {T : Nat → Option (Nat × mi_B)} {d y : Nat} {a : List Value} {Q Q' : Option Value → mi_H → Prop} (h : mt T d y a M Q) (k : ∀ v M', Q v M' → Q' v M') : mt T d y a M Q' := by
  obtain ⟨r, h1, h2⟩ := h
  exact ⟨r, h1, k _ _ h2⟩

theorem rf_count {x1 : Int32} (h : REF g m0 q z kr Ic Rc cc M) {d : Nat} (hd : 3 ≤ d) : mt (mT g) d 198 [.ref m0, .int x1] M (fun v M' => (∃ x : Int32, v = some (.int x)) ∧ REF g m0 q z kr Ic Rc cc M') := by
  obtain ⟨I, R, kn, co, n, f, hR, hK, h74, hQ⟩ := h
  refine (rm_count hR hK.k18 hK.gd hd).imp (fun v M' hq => ?_)
  obtain ⟨x, I', R', rfl, h1, h2, h3⟩ := hq
  exact ⟨⟨x, rfl⟩, I', R', kn, co, n, f, h1, hK.mono (cIx h2 (by decide)) (cRx h3 (by decide)), (h2 74 (by decide)).trans h74, hQ.mono (cIx h2 (by decide)) (cRx h3 (by decide))⟩
theorem rf_entry {x1 x2 : Int32} (h : REF g m0 q z kr Ic Rc cc M) {d : Nat} (hd : 4 ≤ d) : mt (mT g) d 204 [.ref m0, .int x1, .int x2] M (fun v M' => (∃ x : Int32, v = some (.int x)) ∧ REF g m0 q z kr Ic Rc cc M') := by
  obtain ⟨I, R, kn, co, n, f, hR, hK, h74, hQ⟩ := h
  refine (rm_entry hR hK.k18 hK.gd hd).imp (fun v M' hq => ?_)
  obtain ⟨x, I', R', rfl, h1, h2, h3⟩ := hq
  exact ⟨⟨x, rfl⟩, I', R', kn, co, n, f, h1, hK.mono (cIx h2 (by decide)) (cRx h3 (by decide)), (h2 74 (by decide)).trans h74, hQ.mono (cIx h2 (by decide)) (cRx h3 (by decide))⟩
theorem rf_character {x1 x2 : Int32} (h : REF g m0 q z kr Ic Rc cc M) {d : Nat} (hd : 3 ≤ d) : mt (mT g) d 186 [.ref m0, .int x1, .int x2] M (fun v M' => (∃ x : Int32, v = some (.int x)) ∧ REF g m0 q z kr Ic Rc cc M') := by
  obtain ⟨I, R, kn, co, n, f, hR, hK, h74, hQ⟩ := h
  refine (rm_character hR hK.k18 hK.gd hd).imp (fun v M' hq => ?_)
  obtain ⟨x, I', R', rfl, h1, h2, h3⟩ := hq
  exact ⟨⟨x, rfl⟩, I', R', kn, co, n, f, h1, hK.mono (cIx h2 (by decide)) (cRx h3 (by decide)), (h2 74 (by decide)).trans h74, hQ.mono (cIx h2 (by decide)) (cRx h3 (by decide))⟩
theorem rf_member {x1 x2 x3 : Int32} (h : REF g m0 q z kr Ic Rc cc M) {d : Nat} (hd : 5 ≤ d) : mt (mT g) d 223 [.ref m0, .int x1, .int x2, .int x3] M (fun v M' => (∃ x : Int32, v = some (.int x)) ∧ REF g m0 q z kr Ic Rc cc M') := by
  obtain ⟨I, R, kn, co, n, f, hR, hK, h74, hQ⟩ := h
  refine (rm_member hR hK.k18 hK.gd hd).imp (fun v M' hq => ?_)
  obtain ⟨x, I', R', rfl, h1, h2, h3⟩ := hq
  exact ⟨⟨x, rfl⟩, I', R', kn, co, n, f, h1, hK.mono (cIx h2 (by decide)) (cRx h3 (by decide)), (h2 74 (by decide)).trans h74, hQ.mono (cIx h2 (by decide)) (cRx h3 (by decide))⟩
theorem rf_find {x1 x2 x3 : Int32} (h : REF g m0 q z kr Ic Rc cc M) {d : Nat} (hd : 3 ≤ d) : mt (mT g) d 207 [.ref m0, .int x1, .int x2, .int x3] M (fun v M' => (∃ x : Int32, v = some (.int x)) ∧ REF g m0 q z kr Ic Rc cc M') := by
  obtain ⟨I, R, kn, co, n, f, hR, hK, h74, hQ⟩ := h
  refine (rm_find hR hK.k18 hK.gd hd).imp (fun v M' hq => ?_)
  obtain ⟨x, I', R', rfl, h1, h2, h3⟩ := hq
  exact ⟨⟨x, rfl⟩, I', R', kn, co, n, f, h1, hK.mono (cIx h2 (by decide)) (cRx h3 (by decide)), (h2 74 (by decide)).trans h74, hQ.mono (cIx h2 (by decide)) (cRx h3 (by decide))⟩
theorem rf_row {x1 x2 x3 : Int32} (h : REF g m0 q z kr Ic Rc cc M) {d : Nat} (hd : 3 ≤ d) : mt (mT g) d 239 [.ref m0, .int x1, .int x2, .int x3] M (fun v M' => (∃ x : Int32, v = some (.int x)) ∧ REF g m0 q z kr Ic Rc cc M') := by
  obtain ⟨I, R, kn, co, n, f, hR, hK, h74, hQ⟩ := h
  refine (rm_row hR hK.k18 hK.gd hd).imp (fun v M' hq => ?_)
  obtain ⟨x, I', R', rfl, h1, h2, h3⟩ := hq
  exact ⟨⟨x, rfl⟩, I', R', kn, co, n, f, h1, hK.mono (cIx h2 (by decide)) (cRx h3 (by decide)), (h2 74 (by decide)).trans h74, hQ.mono (cIx h2 (by decide)) (cRx h3 (by decide))⟩
theorem rf_bootstrap {x1 x2 : Int32} (h : REF g m0 q z kr Ic Rc cc M) {d : Nat} (hd : 3 ≤ d) : mt (mT g) d 184 [.ref m0, .int x1, .int x2] M (fun v M' => (∃ x : Int32, v = some (.int x)) ∧ REF g m0 q z kr Ic Rc cc M') := by
  obtain ⟨I, R, kn, co, n, f, hR, hK, h74, hQ⟩ := h
  refine (rm_bootstrap hR hK.k18 hK.gd hd).imp (fun v M' hq => ?_)
  obtain ⟨x, I', R', rfl, h1, h2, h3⟩ := hq
  exact ⟨⟨x, rfl⟩, I', R', kn, co, n, f, h1, hK.mono (cIx h2 (by decide)) (cRx h3 (by decide)), (h2 74 (by decide)).trans h74, hQ.mono (cIx h2 (by decide)) (cRx h3 (by decide))⟩
theorem rf_places {x1 : Int32} (h : REF g m0 q z kr Ic Rc cc M) {d : Nat} (hd : 6 ≤ d) : mt (mT g) d 232 [.ref m0, .int x1] M (fun v M' => (∃ x : Int32, v = some (.int x)) ∧ REF g m0 q z kr Ic Rc cc M') := by
  obtain ⟨I, R, kn, co, n, f, hR, hK, h74, hQ⟩ := h
  refine (rm_places hR hK.k18 hK.gd hd).imp (fun v M' hq => ?_)
  obtain ⟨x, I', R', rfl, h1, h2, h3⟩ := hq
  exact ⟨⟨x, rfl⟩, I', R', kn, co, n, f, h1, hK.mono (cIx h2 (by decide)) (cRx h3 (by decide)), (h2 74 (by decide)).trans h74, hQ.mono (cIx h2 (by decide)) (cRx h3 (by decide))⟩
theorem rf_bits {x1 : Int32} (h : REF g m0 q z kr Ic Rc cc M) {d : Nat} (hd : 4 ≤ d) : mt (mT g) d 183 [.ref m0, .int x1] M (fun v M' => (∃ x : Int64, v = some (.long x)) ∧ REF g m0 q z kr Ic Rc cc M') := by
  obtain ⟨I, R, kn, co, n, f, hR, hK, h74, hQ⟩ := h
  refine (rm_bits hR hK.k18 hK.gd hd).imp (fun v M' hq => ?_)
  obtain ⟨x, I', R', rfl, h1, h2, h3⟩ := hq
  exact ⟨⟨x, rfl⟩, I', R', kn, co, n, f, h1, hK.mono (cIx h2 (by decide)) (cRx h3 (by decide)), (h2 74 (by decide)).trans h74, hQ.mono (cIx h2 (by decide)) (cRx h3 (by decide))⟩
theorem rf_place (h : REF g m0 q z kr Ic Rc cc M) {d : Nat} (hd : 1 ≤ d) : mt (mT g) d 231 [.ref m0] M (fun v M' => (∃ x : Int32, v = some (.int x)) ∧ REF g m0 q z kr Ic Rc cc M') := by
  obtain ⟨I, R, kn, co, n, f, hR, hK, h74, hQ⟩ := h
  obtain ⟨a, ha⟩ := hK.k9 (k := 73) (by decide)
  refine (rm_place hR ha hd).imp (fun v M' hq => ?_)
  obtain ⟨x, I', R', rfl, h1, h2, h3⟩ := hq
  exact ⟨⟨x, rfl⟩, I', R', kn, co, n, f, h1, hK.mono (cIx h2 (by decide)) (cRx h3 (by decide)), (h2 74 (by decide)).trans h74, hQ.mono (cIx h2 (by decide)) (cRx h3 (by decide))⟩
theorem rf_cut {x1 : Int32} (h : REF g m0 q z kr Ic Rc cc M) {d : Nat} (hd : 8 ≤ d) : mt (mT g) d 199 [.ref m0, .int x1] M (fun v M' => (∃ x : Int32, v = some (.int x)) ∧ REF g m0 q z kr Ic Rc cc M') := by
  obtain ⟨I, R, kn, co, n, f, hR, hK, h74, hQ⟩ := h
  obtain ⟨si, h9⟩ := hK.k9 (k := 9) (by decide)
  refine (rm_cut hR hK.k18 h74 h9 hQ hK.gd hd).imp (fun v M' hq => ?_)
  obtain ⟨x, I', R', rfl, h1, h2, h3, c, h4, h5⟩ := hq
  exact ⟨⟨x, rfl⟩, I', R', kn, c, n, f, h1, hK.mono (cIx h2 (by decide)) (cRx h3 (by decide)), h4, h5⟩
theorem rf_instruction {x1 x2 x3 : Int32} (h : REF g m0 q z kr Ic Rc cc M) {d : Nat} (hd : 8 ≤ d) : mt (mT g) d 215 [.ref m0, .int x1, .int x2, .int x3] M (fun v M' => (∃ x : Int32, v = some (.int x)) ∧ REF g m0 q z kr Ic Rc cc M') := by
  obtain ⟨I, R, kn, co, n, f, hR, hK, h74, hQ⟩ := h
  obtain ⟨si, h9⟩ := hK.k9 (k := 9) (by decide)
  refine (rm_instruction hR hK.k18 h74 h9 hQ hK.gd hd).imp (fun v M' hq => ?_)
  obtain ⟨x, I', R', rfl, h1, h2, h3, c, h4, h5⟩ := hq
  exact ⟨⟨x, rfl⟩, I', R', kn, c, n, f, h1, hK.mono (cIx h2 (by decide)) (cRx h3 (by decide)), h4, h5⟩
theorem rf_jump {x1 x2 x3 x4 : Int32} (h : REF g m0 q z kr Ic Rc cc M) {d : Nat} (hd : 8 ≤ d) : mt (mT g) d 220 [.ref m0, .int x1, .int x2, .int x3, .int x4] M (fun v M' => (∃ x : Int32, v = some (.int x)) ∧ REF g m0 q z kr Ic Rc cc M') := by
  obtain ⟨I, R, kn, co, n, f, hR, hK, h74, hQ⟩ := h
  obtain ⟨si, h9⟩ := hK.k9 (k := 9) (by decide)
  refine (rm_jump hR hK.k18 h74 h9 hQ hK.gd hd).imp (fun v M' hq => ?_)
  obtain ⟨x, I', R', rfl, h1, h2, h3, c, h4, h5⟩ := hq
  exact ⟨⟨x, rfl⟩, I', R', kn, c, n, f, h1, hK.mono (cIx h2 (by decide)) (cRx h3 (by decide)), h4, h5⟩
end MIB7
