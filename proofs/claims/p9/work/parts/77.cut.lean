/-! the reference: a cut code (my own text) -/
section MIA7
theorem KB.set {k c : Nat} {R R' : rR} {i x : Int32} (h : KB k c R) (h1 : R' k i.toNatClampNeg = some x) (h2 : ∀ b, b ≠ i.toNatClampNeg → R' k b = R k b) : KB k c R' := by
  intro b hb
  by_cases e : b = i.toNatClampNeg
  · exact ⟨x, e ▸ h1⟩
  · rw [h2 b e]
    exact h b hb
def BGN (f : Nat → Int32) (ca cl : Int32) (mn : Nat) (R : rR) : Prop := ∀ k, k < mn → ∃ p, R 80 k = some p ∧ INS f ca cl p
theorem BGN.eq {f : Nat → Int32} {ca cl : Int32} {mn : Nat} {R R' : rR} (h : BGN f ca cl mn R) (e : R' 80 = R 80) : BGN f ca cl mn R' := fun k hk => by rw [e]; exact h k hk
theorem BGN.put {f : Nat → Int32} {ca cl : Int32} {mn : Nat} {R R' : rR} {i p : Int32} (h : BGN f ca cl mn R) (h0 : i.toInt = mn) (h1 : R' 80 i.toNatClampNeg = some p) (h2 : ∀ b, b ≠ i.toNatClampNeg → R' 80 b = R 80 b) (hp : INS f ca cl p) : BGN f ca cl (mn + 1) R' := by
  intro b hb
  by_cases e : b = i.toNatClampNeg
  · exact ⟨p, e ▸ h1, hp⟩
  · rw [h2 b e]
    have : i.toNatClampNeg = i.toInt.toNat := rfl
    exact h b (by omega)
/-- what the length of an instruction says -/
def INP (f : Nat → Int32) (ca cl pc x : Int32) : Prop := 1 ≤ x.toInt ∧ x.toInt ≤ 65540 ∧ ILN (f1 f (ca + pc)) x.toInt ∧ (f1 f (ca + pc) = 196 → f1 f (ca + (pc + 1)) = 132 → 6 ≤ x.toInt) ∧ (f1 f (ca + pc) = 170 ∨ f1 f (ca + pc) = 171 → SWF f ca cl pc)
set_option maxRecDepth 50000 in
theorem ml_170 : mlen 170 = 1 ∧ mlen 171 = 1 ∧ mlen 196 = 4 := by decide
theorem frm_ok {f : Nat → Int32} {ca cl pc x : Int32} (ho : (f1 f (ca + pc) = 170 ∨ f1 f (ca + pc) = 171) ∨ f1 f (ca + pc) = 196) (h : FRM f ca cl pc x) : INP f ca cl pc x := by
  obtain ⟨h1, h2, h3⟩ := h
  have e1 : (170 : Int32).toInt = 170 := rfl
  have e2 : (171 : Int32).toInt = 171 := rfl
  have e3 : (196 : Int32).toInt = 196 := rfl
  refine ⟨?_, h3, ?_, fun e => (h1 e).2, fun e => (h2 e).1⟩
  · rcases ho with e | e
    · exact (h2 e).2
    · have := (h1 e).1
      omega
  · rcases ho with (e | e) | e
    · have q := (h2 (Or.inl e)).2
      rw [e]
      exact ⟨by decide, by decide, by rw [e1]; show ((mlen 170 : Nat) : Int) ≤ _; rw [ml_170.1]; exact q⟩
    · have q := (h2 (Or.inr e)).2
      rw [e]
      exact ⟨by decide, by decide, by rw [e2]; show ((mlen 171 : Nat) : Int) ≤ _; rw [ml_170.2.1]; exact q⟩
    · have q := (h1 e).1
      rw [e]
      exact ⟨by decide, by decide, by rw [e3]; show ((mlen 196 : Nat) : Int) ≤ _; rw [ml_170.2.2]; exact q⟩
set_option maxRecDepth 100000 in
theorem len_tab : ∀ o, o < 202 → o = 170 ∨ o = 171 ∨ o = 196 ∨ ((xe_ch 29 o - 48).toInt = mlen o ∧ 1 ≤ mlen o ∧ mlen o ≤ 5) := by decide +kernel
theorem len_len : (xe_lt 29).2.2.2.length = 202 := by rfl
theorem len_op {f : Nat → Int32} {ca cl pc : Int32} (h : f1 f (ca + pc) ≤ 201) (h1 : ¬ f1 f (ca + pc) = 170) (h2 : ¬ f1 f (ca + pc) = 171) (h3 : ¬ f1 f (ca + pc) = 196) : INP f ca cl pc (xe_ch 29 (Int32.toNatClampNeg (f1 f (ca + pc))) - 48) := by
  have hb := f1_pos (f := f) (x := ca + pc)
  have h' := i_le h
  have e0 : (201 : Int32).toInt = 201 := rfl
  have e1 : (170 : Int32).toInt = 170 := rfl
  have e2 : (171 : Int32).toInt = 171 := rfl
  have e3 : (196 : Int32).toInt = 196 := rfl
  have g1 : (f1 f (ca + pc)).toInt ≠ 170 := fun e => h1 (Int32.toInt_inj.mp (e.trans e1.symm))
  have g2 : (f1 f (ca + pc)).toInt ≠ 171 := fun e => h2 (Int32.toInt_inj.mp (e.trans e2.symm))
  have g3 : (f1 f (ca + pc)).toInt ≠ 196 := fun e => h3 (Int32.toInt_inj.mp (e.trans e3.symm))
  have q := len_tab (f1 f (ca + pc)).toInt.toNat (by omega)
  have q2 := ((q.resolve_left (by omega)).resolve_left (by omega)).resolve_left (by omega)
  obtain ⟨a1, a2, a3⟩ := q2
  have a1' : (xe_ch 29 (Int32.toNatClampNeg (f1 f (ca + pc))) - 48).toInt = mlen (f1 f (ca + pc)).toInt.toNat := a1
  refine ⟨by omega, by omega, ⟨hb.1, by omega, by omega⟩, fun e => absurd e h3, fun e => (e.elim h1 h2).elim⟩
/-- the code of a method, cut up -/
def CUT (f : Nat → Int32) (n : Nat) (I : rI) (R : rR) : Prop := ∃ (ca cl wc mx : Int32) (mn : Nat), CK n ca cl I R ∧ I 75 = some (nI mn) ∧ I 76 = some wc ∧ I 79 = some mx ∧ (mn : Int) ≤ cl.toInt ∧ KB 81 cl.toInt.toNat R ∧ ∀ k, k < mn → ∃ p, R 80 k = some p ∧ INS f ca cl p ∧ (wc < 0 → AIM f ca cl p)
end MIA7
