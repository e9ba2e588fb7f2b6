/-! further questions that are exact (my own text) -/
theorem gx_bitsX {g : xe_G} {x fed P : Nat} {h9 : GH} {M : mi_H} (h : GATX g x h9 fed P M) {x1 : Int32} {d : Nat} (hd : 9 ≤ d) : mt (mT g) d 1 [.ref x, .int x1] M (fun v M' => v = some (.long (biK h9.2.2.2.2.2 x1)) ∧ GPX g x P h9 fed 26 (64 + 40 * fed) M M') := by
  obtain ⟨Y, cm, fl, kv, C, m, rd, ed, hL, hW, hx, hxn, hxl, hlit, hst, hcm, hfl, hkv, hKP, hB⟩ := id h
  exact ((tq_bits hW hx hxn hxl hkv hd).also (dk_bits hx hKP)).imp (fun v M' hq => ⟨hq.2.1, by rw [hq.1.2]; exact GPX.rf h _ _⟩)
theorem rx_bitsX {g : xe_G} {m0 : Nat} {q : Nat → Nat} {z : Nat × Nat} {kr : rR} {Ic : rI} {Rc : rR} {h9 : GH} {M : mi_H} {x1 : Int32} (h : REFX g m0 q z kr Ic Rc h9 M) {d : Nat} (hd : 4 ≤ d) : mt (mT g) d 183 [.ref m0, .int x1] M (fun v M' => v = some (.long (biK h9.2.2.2.2.2 x1)) ∧ REFX g m0 q z kr Ic Rc h9 M') := by
  obtain ⟨I, R, kn, co, n, f, hR, hK, h74, hQ⟩ := id h.1
  have hX := h.2.at hR
  refine ((rx_bits h hd).also (rd_bits (k := x1) hR hX.2.2.2.2.2.2.2)).imp (fun v M' hq => ?_)
  obtain ⟨⟨-, h1⟩, I', R', hv, -⟩ := hq
  exact ⟨hv, h1⟩
theorem gx_placesX {g : xe_G} {x fed P : Nat} {h9 : GH} {M : mi_H} (h : GATX g x h9 fed P M) {x1 : Int32} {d : Nat} (hd : 9 ≤ d) : mt (mT g) d 17 [.ref x, .int x1] M (fun v M' => v = some (.int (plK h9.2.2.2.2.2 x1)) ∧ GPX g x P h9 fed 26 (64 + 40 * fed) M M') := by
  obtain ⟨Y, cm, fl, kv, C, m, rd, ed, hL, hW, hx, hxn, hxl, hlit, hst, hcm, hfl, hkv, hKP, hB⟩ := id h
  exact ((tq_places hW hx hxn hxl hkv hd).also (dk_places hx hKP)).imp (fun v M' hq => ⟨hq.2.1, by rw [hq.1.2]; exact GPX.rf h _ _⟩)
theorem rx_placesX {g : xe_G} {m0 : Nat} {q : Nat → Nat} {z : Nat × Nat} {kr : rR} {Ic : rI} {Rc : rR} {h9 : GH} {M : mi_H} {x1 : Int32} (h : REFX g m0 q z kr Ic Rc h9 M) {d : Nat} (hd : 6 ≤ d) : mt (mT g) d 232 [.ref m0, .int x1] M (fun v M' => v = some (.int (plK h9.2.2.2.2.2 x1)) ∧ REFX g m0 q z kr Ic Rc h9 M') := by
  obtain ⟨I, R, kn, co, n, f, hR, hK, h74, hQ⟩ := id h.1
  have hX := h.2.at hR
  refine ((rx_places h hd).also (rd_places (k := x1) hR hX.2.2.2.2.2.2.2)).imp (fun v M' hq => ?_)
  obtain ⟨⟨-, h1⟩, I', R', hv, -⟩ := hq
  exact ⟨hv, h1⟩
def bz (v : Int32) : Int32 := if v = 0 then 0 else 1
theorem gx_findX {g : xe_G} {x fed P : Nat} {h9 : GH} {M : mi_H} (h : GATX g x h9 fed P M) {x1 x2 x3 : Int32} {d : Nat} (hd : 9 ≤ d) : mt (mT g) d 10 [.ref x, .int x1, .int x2, .int x3] M (fun v M' => v = some (.int (fdK h9.2.2.2.2.2 x1 x2 x3)) ∧ GPX g x P h9 fed 26 (64 + 40 * fed) M M') := by
  obtain ⟨Y, cm, fl, kv, C, m, rd, ed, hL, hW, hx, hxn, hxl, hlit, hst, hcm, hfl, hkv, hKP, hB⟩ := id h
  exact ((tq_find hW hx hxn hxl hkv hd).also (dk_find hx hKP)).imp (fun v M' hq => ⟨hq.2.1, by rw [hq.1.2]; exact GPX.rf h _ _⟩)
theorem rx_findX {g : xe_G} {m0 : Nat} {q : Nat → Nat} {z : Nat × Nat} {kr : rR} {Ic : rI} {Rc : rR} {h9 : GH} {M : mi_H} {x1 x2 x3 : Int32} (h : REFX g m0 q z kr Ic Rc h9 M) {d : Nat} (hd : 3 ≤ d) : mt (mT g) d 207 [.ref m0, .int x1, .int x2, .int x3] M (fun v M' => v = some (.int (fdK h9.2.2.2.2.2 x1 x2 x3)) ∧ REFX g m0 q z kr Ic Rc h9 M') := by
  obtain ⟨I, R, kn, co, n, f, hR, hK, h74, hQ⟩ := id h.1
  have hX := h.2.at hR
  refine ((rx_find h hd).also (rd_find (t := x1) (x := x2) (y := x3) hR hX.2.2.2.2.2.2.2)).imp (fun v M' hq => ?_)
  obtain ⟨⟨-, h1⟩, I', R', hv, -⟩ := hq
  exact ⟨hv, h1⟩
theorem gx_bootstrapX {g : xe_G} {x fed P : Nat} {h9 : GH} {M : mi_H} (h : GATX g x h9 fed P M) {x1 x2 : Int32} {d : Nat} (hd : 9 ≤ d) : mt (mT g) d 2 [.ref x, .int x1, .int x2] M (fun v M' => v = some (.int (bsK h9.2.2.2.2.2 x1 x2)) ∧ GPX g x P h9 fed 26 (64 + 40 * fed) M M') := by
  obtain ⟨Y, cm, fl, kv, C, m, rd, ed, hL, hW, hx, hxn, hxl, hlit, hst, hcm, hfl, hkv, hKP, hB⟩ := id h
  exact ((tq_bootstrap hW hx hxn hxl hkv hd).also (dk_bootstrap hx hKP)).imp (fun v M' hq => ⟨hq.2.1, by rw [hq.1.2]; exact GPX.rf h _ _⟩)
theorem rx_bootstrapX {g : xe_G} {m0 : Nat} {q : Nat → Nat} {z : Nat × Nat} {kr : rR} {Ic : rI} {Rc : rR} {h9 : GH} {M : mi_H} {x1 x2 : Int32} (h : REFX g m0 q z kr Ic Rc h9 M) {d : Nat} (hd : 3 ≤ d) : mt (mT g) d 184 [.ref m0, .int x1, .int x2] M (fun v M' => v = some (.int (bsK h9.2.2.2.2.2 x1 x2)) ∧ REFX g m0 q z kr Ic Rc h9 M') := by
  obtain ⟨I, R, kn, co, n, f, hR, hK, h74, hQ⟩ := id h.1
  have hX := h.2.at hR
  refine ((rx_bootstrap h hd).also (rd_bootstrap (i := x1) (t := x2) hR hX.2.2.2.2.2.2.2)).imp (fun v M' hq => ?_)
  obtain ⟨⟨-, h1⟩, I', R', hv, -⟩ := hq
  exact ⟨hv, h1⟩
theorem gx_countX {g : xe_G} {x fed P : Nat} {h9 : GH} {M : mi_H} (h : GATX g x h9 fed P M) {x1 : Int32} (hq0 : ¬ x1 < 0) (hq1 : x1 ≤ 15) {d : Nat} (hd : 9 ≤ d) : mt (mT g) d 5 [.ref x, .int x1] M (fun v M' => v = some (.int (cnK h9.2.2.2.2.2 x1)) ∧ GPX g x P h9 fed 26 (64 + 40 * fed) M M') := by
  obtain ⟨Y, cm, fl, kv, C, m, rd, ed, hL, hW, hx, hxn, hxl, hlit, hst, hcm, hfl, hkv, hKP, hB⟩ := id h
  exact ((tq_count hW hx hxn hxl hkv hq0 hq1 hd).also (dk_count hx hKP hq0 hq1)).imp (fun v M' hq => ⟨hq.2.1, by rw [hq.1.2]; exact GPX.rf h _ _⟩)
theorem rx_count_ok {g : xe_G} {m0 : Nat} {q : Nat → Nat} {z : Nat × Nat} {kr : rR} {Ic : rI} {Rc : rR} {h9 : GH} {M : mi_H} {x1 : Int32} (h : REFX g m0 q z kr Ic Rc h9 M) (hq0 : ¬ x1 < 0) (hq1 : x1 ≤ 15) {d : Nat} (hd : 3 ≤ d) : mt (mT g) d 198 [.ref m0, .int x1] M (fun v M' => v = some (.int (cnK h9.2.2.2.2.2 x1)) ∧ REFX g m0 q z kr Ic Rc h9 M' ∧ ∃ I R, RS g m0 q z I R M' ∧ I 0 = some 0) := by
  obtain ⟨I, R, kn, co, n, f, hR, hK, h74, hQ⟩ := id h.1
  have hX := h.2.at hR
  refine ((rx_count h hd).also (rd_count (w := x1) hR hX.2.2.2.2.2.2.2 hq0 hq1)).imp (fun v M' hq => ?_)
  obtain ⟨⟨-, h1⟩, I', R', hv, b1, b2, b3, b4⟩ := hq
  exact ⟨hv, h1, I', R', b1, b4⟩
theorem rx_count_no {g : xe_G} {m0 : Nat} {q : Nat → Nat} {z : Nat × Nat} {kr : rR} {Ic : rI} {Rc : rR} {h9 : GH} {M : mi_H} {x1 : Int32} (h : REFX g m0 q z kr Ic Rc h9 M) (hbad : x1 < 0 ∨ ¬ x1 ≤ 15) {d : Nat} (hd : 3 ≤ d) : mt (mT g) d 198 [.ref m0, .int x1] M (fun v M' => (∃ x : Int32, v = some (.int x)) ∧ REFX g m0 q z kr Ic Rc h9 M' ∧ ∃ I R, RS g m0 q z I R M' ∧ I 0 = some 1) := by
  obtain ⟨I, R, kn, co, n, f, hR, hK, h74, hQ⟩ := id h.1
  refine ((rx_count h hd).also (rd_countB (w := x1) hR hbad)).imp (fun v M' hq => ?_)
  obtain ⟨⟨hx, h1⟩, I', R', hv, b1, b2, b3, b4⟩ := hq
  exact ⟨hx, h1, I', R', b1, b4⟩
