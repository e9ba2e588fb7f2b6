/-! the reference: feed, end, read between calls (laid by wip/p2/c85.py) -/
section MIB8
variable {g : xe_G} {m0 : Nat} {q : Nat → Nat} {z : Nat × Nat} {kr : rR} {Ic : rI} {Rc : rR} {cc : Nat} {M : mi_H}
theorem rf_feed {x1 x2 x3 x4 x5 : Int32} (h : REF g m0 q z kr Ic Rc cc M) (hcc : cc + 20 ≤ 65540) {d : Nat} (hd : 2 ≤ d) : mt (mT g) d 205 [.ref m0, .int x1, .int x2, .int x3, .int x4, .int x5] M (fun v M' => v = some (.int (nI (cc + 20))) ∧ REF g m0 q z kr Ic Rc (cc + 20) M' ∧ ∃ I R, RS g m0 q z I R M' ∧ I 0 = some 0) := by
  obtain ⟨I, R, kn, co, n, f, hR, hK, h74, hQ⟩ := h
  refine (rm_feed hR hK.2.2.2.2.2.2.1 hcc hK.2.2.2.2.2.2.2.1 hd).imp (fun v M' hq => ?_)
  obtain ⟨x, I', R', rfl, h1, h2, h3, h4, h5, h6, h7⟩ := hq
  have e : cc + 4 + 4 + 4 + 4 + 4 = cc + 20 := by omega
  rw [e] at h4 h6 h7
  subst h4
  obtain ⟨h49, hk, hKw, h63, h64, hcan, h19, hb, ⟨nf, a1, a2, a3⟩, h18, hG⟩ := hK
  refine ⟨rfl, ⟨I', R', kn, co, n, f, h1, ⟨(h2 49 (by decide)).trans h49, fun k hk2 => ?_, hKw.mono (fun k hk => by cases hk) (cRx h3 (by decide)), (h3 63 (by decide)).trans h63, (h3 64 (by decide)).trans h64, hcan, h6, h7, ⟨nf, a1, (h2 17 (by decide)).trans a2, a3.eq (h3 13 (by decide))⟩, (h2 18 (by decide)).trans h18, hG.imp id (fun ⟨b1, b2⟩ => ⟨⟨b1.1, b1.2.1, fun i hi => by rw [h3 14 (by decide)]; exact b1.2.2.1 i hi, b1.2.2.2⟩, b2.mono (cIx h2 (by decide)) (cRx h3 (by decide))⟩)⟩, (h2 74 (by decide)).trans h74, hQ.mono (cIx h2 (by decide)) (cRx h3 (by decide))⟩, I', R', h1, h5⟩
  rw [h2 k (by revert k; decide)]
  exact hk k hk2
theorem rf_end {x1 : Int32} (h : REF g m0 q z kr Ic Rc cc M) (hcc : cc ≤ 65540) {d : Nat} (hd : 2 ≤ d) : mt (mT g) d 202 [.ref m0, .int x1] M (fun v M' => (∃ x : Int32, v = some (.int x)) ∧ (¬ (0 ≤ x1.toInt ∧ x1.toInt ≤ cc) ∧ REF g m0 q z kr Ic Rc cc M' ∧ (∃ I R, RS g m0 q z I R M' ∧ I 0 = some 1) ∨ (0 ≤ x1.toInt ∧ x1.toInt ≤ cc) ∧ REF g m0 q z kr Ic Rc 0 M' ∧ v = some (.int x1) ∧ ∃ I R, RS g m0 q z I R M' ∧ I 0 = some 0)) := by
  obtain ⟨I, R, kn, co, n, f, hR, hK, h74, hQ⟩ := h
  refine (rm_end hR hK.2.2.2.2.2.2.1 hcc hK.2.2.2.2.2.2.2.1 hd).imp (fun v M' hq => ?_)
  obtain ⟨x, I', R', rfl, h1, h2, h3, h4⟩ := hq
  refine ⟨⟨x, rfl⟩, ?_⟩
  obtain ⟨h49, hk, hKw, h63, h64, hcan, h19, hb, ⟨nf, a1, a2, a3⟩, h18, hG⟩ := hK
  have hk' : ∀ k, k ∈ [9, 47, 48, 73] → ∃ a, I' k = some a := fun k hk2 => by
    rw [h2 k (by revert k; decide)]
    exact hk k hk2
  have hG' : kn < 0 ∨ KEP g m0 q Ic Rc n f kn R' ∧ GD n f I' R' := hG.imp id (fun ⟨b1, b2⟩ => ⟨⟨b1.1, b1.2.1, fun i hi => by rw [h3 14 (by decide)]; exact b1.2.2.1 i hi, b1.2.2.2⟩, b2.mono (cIx h2 (by decide)) (cRx h3 (by decide))⟩)
  have hK' := hKw.mono (I' := I') (R' := R') (fun k hk => by cases hk) (cRx h3 (by decide))
  rcases h4 with ⟨b0, bt, b1, b2, b3⟩ | ⟨b0, b1, bx, bt, b2, b3, b4⟩
  · refine Or.inl ⟨b0, ?_, I', R', h1, bt⟩
    exact ⟨I', R', kn, co, n, f, h1, ⟨(h2 49 (by decide)).trans h49, hk', hK', (h3 63 (by decide)).trans h63, (h3 64 (by decide)).trans h64, hcan, b2.trans h19, hb.eq (h3 15 (by decide)), ⟨nf, a1, b1.trans a2, a3.eq b3⟩, (h2 18 (by decide)).trans h18, hG'⟩, (h2 74 (by decide)).trans h74, hQ.mono (cIx h2 (by decide)) (cRx h3 (by decide))⟩
  · refine Or.inr ⟨⟨b0, b1⟩, ?_, by rw [bx], I', R', h1, bt⟩
    refine ⟨I', R', kn, co, n, f, h1, ⟨(h2 49 (by decide)).trans h49, hk', hK', (h3 63 (by decide)).trans h63, (h3 64 (by decide)).trans h64, hcan, b3, fun i hi => absurd hi (Nat.not_lt_zero i), ⟨x1.toInt.toNat, by omega, ?_, b4⟩, (h2 18 (by decide)).trans h18, hG'⟩, (h2 74 (by decide)).trans h74, hQ.mono (cIx h2 (by decide)) (cRx h3 (by decide))⟩
    rw [b2]
    congr 1
    apply Int32.toInt_inj.mp
    rw [nI_val (by omega)]
    omega
theorem rf_read (h : REF g m0 q z kr Ic Rc cc M) {d : Nat} (hd : 11 ≤ d) : mt (mT g) d 236 [.ref m0] M (fun v M' => (∃ x : Int32, v = some (.int x)) ∧ REF g m0 q z kr Ic Rc cc M') := by
  obtain ⟨I, R, kn, co, n, f, hR, hK, h74, hQ⟩ := h
  obtain ⟨h49, hk, hKw, h63, h64, hcan, h19, hb, ⟨nf, a1, a2, a3⟩, h18, hG⟩ := hK
  obtain ⟨rl, h47⟩ := hk 47 (by decide)
  obtain ⟨wa, h48⟩ := hk 48 (by decide)
  refine (rm_read hR a2 h18 h49 h47 h48 hKw a1 hcan h63 h64 a3 (hG.imp id (fun h => h.1)) hd).imp (fun v M' hq => ?_)
  obtain ⟨x, I', R', rfl, h1, h2, h3, c17, c74, ⟨a73, c73⟩, ⟨a9, c9⟩, ⟨a47, c47⟩, ⟨a48, c48⟩, k9, c18, hk9⟩ := hq
  refine ⟨⟨x, rfl⟩, ?_⟩
  have hk' : ∀ k, k ∈ [9, 47, 48, 73] → ∃ a, I' k = some a := fun k hk2 => by
    simp only [List.mem_cons, List.not_mem_nil, or_false] at hk2
    rcases hk2 with rfl | rfl | rfl | rfl
    · exact ⟨_, c9⟩
    · exact ⟨_, c47⟩
    · exact ⟨_, c48⟩
    · exact ⟨_, c73⟩
  have hK' := hKw.mono (I' := I') (R' := R') (fun k hk => by cases hk) (cRx h3 (by decide))
  have hall : ∀ n f, (k9 < 0 ∨ KEP g m0 q Ic Rc n f k9 R' ∧ GD n f I' R') → REF g m0 q z kr Ic Rc cc M' := fun n f hh => ⟨I', R', k9, -1, n, f, h1, ⟨(h2 49 (by decide)).trans h49, hk', hK', (h3 63 (by decide)).trans h63, (h3 64 (by decide)).trans h64, hcan, (h2 19 (by decide)).trans h19, hb.eq (h3 15 (by decide)), ⟨0, by omega, c17, fun i hi => absurd hi (Nat.not_lt_zero i)⟩, c18, hh⟩, c74, Or.inl rfl⟩
  rcases hk9 with hk9 | ⟨n1, f1', hk9⟩
  · exact hall 0 (fun _ => 0) (Or.inl hk9)
  · exact hall n1 f1' (Or.inr hk9)
end MIB8
