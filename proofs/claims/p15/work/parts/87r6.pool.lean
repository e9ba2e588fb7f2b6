/-! what a pool that was found good tells of its entries (my own text) -/
section PFA
variable {f : Nat → Int32} {n : Nat} {E : List (Nat × Nat)}
theorem pair_in {k : Nat} (h : ¬ pairN f E k = 0) : tg f E k = 12 ∧ tg f E (fi f E k) = 1 ∧ tg f E (se f E k) = 1 := Decidable.not_not.mp (fun h9 => h (pair_9.mpr h9))
theorem PF_of {mj N : Nat} (h : chkP f n E mj (N - 1) 1 = none) (hE : ∀ q ∈ E, 1 ≤ q.1 ∧ q.1 < N) : PF f n E := by
  intro k
  have hk0 : ¬ tg f E k = 0 → ¬ lnkN f E k = 0 ∧ brkN f n E mj k = 0 := fun hk => by
    have hkE : 1 ≤ k ∧ k < N := by
      unfold tg at hk
      cases hl : lk E k with
      | none => rw [hl] at hk; exact absurd rfl hk
      | some p => exact hE _ (lk_in hl)
    exact chkP_all h k hkE.1 (by omega)
  refine ⟨fun ht => ?_, fun ht => ?_, fun ht => ?_, fun ht => ?_⟩
  · obtain ⟨h1, -⟩ := hk0 (by omega)
    unfold lnkN at h1
    rw [if_neg (by omega), if_neg (by omega)] at h1
    by_cases h9 : tg f E k = 9 ∨ tg f E k = 10 ∨ tg f E k = 11
    · rw [if_pos h9] at h1
      have h2 : ¬ pairN f E (se f E k) = 0 := (Decidable.not_not.mp (fun h8 => h1 (mem_9.mpr h8))).2.2
      exact pair_in h2
    · rw [if_neg h9, if_neg (by omega), if_pos (by omega)] at h1
      exact pair_in h1
  · obtain ⟨-, h2⟩ := hk0 (by omega)
    unfold brkN at h2
    rw [if_neg (by omega), if_neg (by omega), if_neg (by omega), if_neg (by omega), if_neg (by omega), if_neg (by omega), if_pos ht] at h2
    intro h9
    rw [if_pos (Or.inl h9)] at h2
    cases h2
  · obtain ⟨-, h2⟩ := hk0 (by omega)
    unfold brkN at h2
    rw [if_neg (by omega), if_neg (by omega), if_neg (by omega), if_pos ht] at h2
    intro h9
    rw [if_pos (by unfold mrfN; rw [if_pos h9])] at h2
    cases h2
  · obtain ⟨-, h2⟩ := hk0 (by omega)
    unfold brkN at h2
    rw [if_neg (by omega), if_neg (by omega), if_neg (by omega), if_pos (Or.inr ht)] at h2
    unfold niN eqN
    rw [if_neg]
    intro e
    have ha : ¬ angN (tX f n E (fi f E (se f E k))) = 0 := by rw [e]; decide
    have hm : mrfN f n E k = 0 := by
      unfold mrfN
      split
      · rfl
      · first | rw [if_neg ha, if_neg (by omega)] | rw [if_neg (by omega)]
    rw [if_pos hm] at h2
    cases h2
end PFA
