/-! the reference: behind its constructor (my own text) -/
section MIB9
theorem rf_init {g : xe_G} {m0 : Nat} {M : mi_H} {F0 : Nat → Option Value} (h0 : M.1 m0 = some (.inr (12, F0))) (hF0 : ∀ k, rx k = false → F0 k = (I00 k).map Value.int) (hm : m0 < M.2.1) (hlt : ∀ k, rlk k → g.2.1 k < M.2.1) (hlm : ∀ k, rlk k → g.2.1 k ≠ m0) (hlit : ∀ k, rlk k → ∃ f, M.1 (g.2.1 k) = some (.inr (100 + k, f))) {d : Nat} (hd : 4 ≤ d) : mt (mT g) d 173 [.ref m0] M (fun v M' => v = none ∧ M'.2 = (M.2.1 + 39, M.2.2 + 898568) ∧ ∃ (Ic : rI) (Rc : rR) (M1 : mi_H), hle M1 M' ∧ REF g m0 (qf M.2.1) M'.2 R09 Ic Rc 0 M1) := by
  refine (rm_init h0 hF0 hm hlt hlm hlit hd).imp (fun v M' hq => ?_)
  obtain ⟨rfl, I', R', M1, h1, h2, h3, h4, h5, h6⟩ := hq
  obtain ⟨Ic, Rc, hcan⟩ := can_ex h1 R09
  have h9 : ∃ a, I' 9 = some a := by
    obtain ⟨S, cN, -, -, -, h, -⟩ := h6
    exact h
  refine ⟨rfl, h3, Ic, Rc, M1, h2, I', R', -1, -1, 0, fun _ => 0, h1, ⟨(h4 49 (by decide)).trans rfl, fun k hk => ?_, KW09.mono (fun k hk => by cases hk) (cRx h5 (by decide)), h5 63 (by decide), h5 64 (by decide), hcan, (h4 19 (by decide)).trans rfl, fun i hi => absurd hi (Nat.not_lt_zero i), ⟨0, by omega, (h4 17 (by decide)).trans rfl, fun i hi => absurd hi (Nat.not_lt_zero i)⟩, (h4 18 (by decide)).trans rfl, Or.inl (by decide)⟩, (h4 74 (by decide)).trans rfl, Or.inl rfl⟩
  simp only [List.mem_cons, List.not_mem_nil, or_false] at hk
  rcases hk with rfl | rfl | rfl | rfl
  · exact h9
  · exact ⟨0, (h4 47 (by decide)).trans rfl⟩
  · exact ⟨0, (h4 48 (by decide)).trans rfl⟩
  · exact ⟨-1, (h4 73 (by decide)).trans rfl⟩
end MIB9
