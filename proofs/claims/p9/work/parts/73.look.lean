/-! the reference: look-ups (my own text) -/
section MIA5
def AGX (c : Int32 → Int32) (n a : Int32) : Prop := ∃ m b, itr (AG1 c n) m a b ∧ 0 ≤ b.toInt ∧ b.toInt + 1 < n.toInt ∧ c b = 41
theorem AGX.w {c : Int32 → Int32} {n a : Int32} (h : AGX c n a) : AGW c n a := by
  obtain ⟨m, b, h1, h2, h3, h4⟩ := h
  exact ⟨m, b, h1, h2, by omega, h4⟩
theorem AGX.next {c : Int32 → Int32} {n a : Int32} (h : AGX c n a) (ha : ¬ c a = 41) : a.toInt < (FTx c n a).toInt ∧ AGX c n (FTx c n a) := by
  obtain ⟨m, b, h1, h2, h3, h4⟩ := h
  cases m with
  | zero => cases h1; exact absurd h4 ha
  | succ m =>
    obtain ⟨c1, h5, h6⟩ := h1.front
    obtain ⟨d1, d2, d3, d4, d5, d6⟩ := h5
    subst d4
    exact ⟨d5, m, b, h6, h2, h3, h4⟩
theorem AGX.end {c : Int32 → Int32} {n a : Int32} (h : AGX c n a) (ha : c a = 41) : 0 ≤ a.toInt ∧ a.toInt + 1 < n.toInt := by
  obtain ⟨m, b, h1, h2, h3, h4⟩ := h
  cases m with
  | zero => cases h1; exact ⟨h2, h3⟩
  | succ m =>
    obtain ⟨c1, h5, h6⟩ := h1.front
    exact absurd ha h5.2.2.1
theorem i_ltn {x : Int32} {k : Nat} (h : x < nI k) (hk : k ≤ 8192) : x.toInt < k := by
  have := i_lt h
  rw [nI_val (by omega)] at this
  exact this
theorem i_lt8 {x : Int32} {k : Nat} (h : x < nI k) (hk : k ≤ 8192) : x < 8192 := by
  have := i_ltn h hk
  apply Int32.lt_iff_toInt_lt.mpr
  have : (8192 : Int32).toInt = 8192 := rfl
  omega
theorem esz_mid {t : Int32} (h1 : ¬ t < 9) (h2 : t ≤ 12) : esz t = 5 ∧ t ≠ 0 := by
  have a := i_nlt h1
  have b := i_le h2
  have a9 : (9 : Int32).toInt = 9 := rfl
  have b12 : (12 : Int32).toInt = 12 := rfl
  have h : t.toInt = 9 ∨ t.toInt = 10 ∨ t.toInt = 11 ∨ t.toInt = 12 := by omega
  have h' : t = 9 ∨ t = 10 ∨ t = 11 ∨ t = 12 := h.imp (fun e => Int32.toInt_inj.mp e) (fun h => h.imp (fun e => Int32.toInt_inj.mp e) (fun h => h.imp (fun e => Int32.toInt_inj.mp e) (fun e => Int32.toInt_inj.mp e)))
  rcases h' with h | h | h | h <;> rw [h] <;> exact ⟨rfl, by decide⟩
/-- the first bytes of a row are known -/
def KB (k c : Nat) (R : rR) : Prop := ∀ i, i < c → ∃ b, R k i = some b
theorem KB.put {k c : Nat} {R R' : rR} {i x : Int32} (h : KB k c R) (h0 : i.toInt = c) (h1 : R' k i.toNatClampNeg = some x) (h2 : ∀ b, b ≠ i.toNatClampNeg → R' k b = R k b) : KB k (c + 1) R' := by
  intro b hb
  by_cases e : b = i.toNatClampNeg
  · exact ⟨x, e ▸ h1⟩
  · rw [h2 b e]
    have : i.toNatClampNeg = i.toInt.toNat := rfl
    exact h b (by omega)
theorem KB.eq {k c : Nat} {R R' : rR} (h : KB k c R) (e : R' k = R k) : KB k c R' := fun i hi => by rw [e]; exact h i hi
theorem KB.le {k c c' : Nat} {R : rR} (h : KB k c R) (e : c' ≤ c) : KB k c' R := fun i hi => h i (by omega)
theorem nI_s1 {c : Nat} (h : c ≤ 65540) : nI c + 1 = nI (c + 1) := by
  apply Int32.toInt_inj.mp
  have e1 : (1 : Int32).toInt = 1 := rfl
  rw [i_add (by rw [nI_val (by omega)]; omega) (by rw [nI_val (by omega)]; omega), nI_val (by omega), nI_val (by omega), e1]
  omega
end MIA5
