/-! the reference's symbols (my own text) -/
section MIS
def SK (S cN : Nat) (sa sl ch : Nat → Int32) (I : rI) (R : rR) : Prop := I 8 = some (nI S) ∧ I 3 = some (nI cN) ∧ S ≤ 24000 ∧ cN ≤ 66000 ∧ (∀ s, s < S → R 4 s = some (sa s) ∧ R 5 s = some (sl s) ∧ 0 ≤ (sa s).toInt ∧ 0 ≤ (sl s).toInt ∧ (sa s).toInt + (sl s).toInt ≤ cN) ∧ ∀ i, i < cN → R 1 i = some (ch i) ∧ ch16 (ch i)
def HK (S : Nat) (hd nx : Nat → Int32) (I : rI) (R : rR) : Prop := (∀ h, h < 4096 → R 7 h = some (hd h) ∧ -1 ≤ (hd h).toInt ∧ (hd h).toInt < S) ∧ ∀ s, s < S → R 6 s = some (nx s) ∧ -1 ≤ (nx s).toInt ∧ (nx s).toInt < s
def CU (m : Nat) (cu : Nat → Int32) (I : rI) (R : rR) : Prop := ∀ i, i < m → R 2 i = some (cu i) ∧ ch16 (cu i)
variable {S cN m : Nat} {sa sl ch hd nx cu : Nat → Int32} {I I' : rI} {R R' : rR} {x y : Int32}
theorem SK.mono (h : SK S cN sa sl ch I R) (hI : ∀ k, k ∈ [3, 8] → I' k = I k) (hR : ∀ k, k ∈ [1, 4, 5] → R' k = R k) : SK S cN sa sl ch I' R' := by
  obtain ⟨a1, a2, a3, a4, a5, a6⟩ := h
  refine ⟨(hI 8 (by decide)).trans a1, (hI 3 (by decide)).trans a2, a3, a4, fun s hs => ?_, fun i hi => ?_⟩
  · rw [hR 4 (by decide), hR 5 (by decide)]
    exact a5 s hs
  · rw [hR 1 (by decide)]
    exact a6 i hi
theorem HK.mono (h : HK S hd nx I R) (hI : ∀ k, k ∈ ([] : List Nat) → I' k = I k) (hR : ∀ k, k ∈ [6, 7] → R' k = R k) : HK S hd nx I' R' := by
  refine ⟨fun i hi => ?_, fun i hi => ?_⟩
  · rw [hR 7 (by decide)]
    exact h.1 i hi
  · rw [hR 6 (by decide)]
    exact h.2 i hi
theorem CU.mono (h : CU m cu I R) (hI : ∀ k, k ∈ ([] : List Nat) → I' k = I k) (hR : ∀ k, k ∈ [2] → R' k = R k) : CU m cu I' R' := by
  intro i hi
  rw [hR 2 (by decide)]
  exact h i hi
theorem SK.s (h : SK S cN sa sl ch I R) (h0 : 0 ≤ x.toInt) (h1 : x.toInt < S) : R 4 x.toNatClampNeg = some (sa x.toNatClampNeg) ∧ R 5 x.toNatClampNeg = some (sl x.toNatClampNeg) ∧ 0 ≤ (sa x.toNatClampNeg).toInt ∧ 0 ≤ (sl x.toNatClampNeg).toInt ∧ (sa x.toNatClampNeg).toInt + (sl x.toNatClampNeg).toInt ≤ cN ∧ cN ≤ 66000 ∧ vp_in x 24000 := by
  obtain ⟨a1, a2, a3, a4, a5, a6⟩ := h
  obtain ⟨b1, b2, b3, b4, b5⟩ := a5 x.toNatClampNeg (by show x.toInt.toNat < S; omega)
  exact ⟨b1, b2, b3, b4, b5, a4, vin_lt h0 (by omega)⟩
theorem SK.c (h : SK S cN sa sl ch I R) (h0 : 0 ≤ x.toInt) (h1 : x.toInt < cN) : R 1 x.toNatClampNeg = some (ch x.toNatClampNeg) ∧ ch16 (ch x.toNatClampNeg) ∧ vp_in x 66000 := by
  obtain ⟨a1, a2, a3, a4, a5, a6⟩ := h
  obtain ⟨b1, b2⟩ := a6 x.toNatClampNeg (by show x.toInt.toNat < cN; omega)
  exact ⟨b1, b2, vin_lt h0 (by omega)⟩
/-- a character of a symbol -/
theorem SK.t (h : SK S cN sa sl ch I R) (h0 : 0 ≤ x.toInt) (h1 : x.toInt < S) (k0 : 0 ≤ y.toInt) (k1 : y.toInt < (sl x.toNatClampNeg).toInt) : R 1 (sa x.toNatClampNeg + y).toNatClampNeg = some (ch (sa x.toNatClampNeg + y).toNatClampNeg) ∧ ch16 (ch (sa x.toNatClampNeg + y).toNatClampNeg) ∧ vp_in (sa x.toNatClampNeg + y) 66000 := by
  obtain ⟨-, -, b3, b4, b5, b6, -⟩ := h.s h0 h1
  have e : (sa x.toNatClampNeg + y).toInt = (sa x.toNatClampNeg).toInt + y.toInt := i_add (by omega) (by omega)
  exact h.c (by omega) (by omega)
theorem CU.iat (h : CU m cu I R) (h0 : 0 ≤ x.toInt) (h1 : x.toInt < m) : R 2 x.toNatClampNeg = some (cu x.toNatClampNeg) ∧ ch16 (cu x.toNatClampNeg) := h _ (by show x.toInt.toNat < m; omega)
theorem HK.h (h : HK S hd nx I R) (h0 : 0 ≤ x.toInt) (h1 : x.toInt < 4096) : R 7 x.toNatClampNeg = some (hd x.toNatClampNeg) ∧ -1 ≤ (hd x.toNatClampNeg).toInt ∧ (hd x.toNatClampNeg).toInt < S := h.1 _ (by show x.toInt.toNat < 4096; omega)
theorem HK.n (h : HK S hd nx I R) (h0 : 0 ≤ x.toInt) (h1 : x.toInt < S) : R 6 x.toNatClampNeg = some (nx x.toNatClampNeg) ∧ -1 ≤ (nx x.toNatClampNeg).toInt ∧ (nx x.toNatClampNeg).toInt < x.toInt := by
  have := h.2 x.toNatClampNeg (by show x.toInt.toNat < S; omega)
  have e : ((x.toNatClampNeg : Nat) : Int) = x.toInt := by show ((x.toInt.toNat : Nat) : Int) = _; omega
  rw [e] at this
  exact this
theorem and4095 (y : Int32) : 0 ≤ (y &&& 4095).toInt ∧ (y &&& 4095).toInt < 4096 := by
  have h : (y &&& 4095).toBitVec.toNat < 2 ^ 12 := by
    show (y.toBitVec &&& 4095#32).toNat < 2 ^ 12
    rw [BitVec.toNat_and]
    exact Nat.lt_of_le_of_lt Nat.and_le_right (by decide)
  rw [nat_int (by omega)]
  omega
theorem nar16 {v : Int32} (h : ch16 v) : vp_nar .char v = v := by
  unfold vp_nar
  rw [h]
/-- the symbols have grown by one at most -/
def SX (S cN m : Nat) (sa sl ch : Nat → Int32) (x : Int32) (I' : rI) (R' : rR) : Prop := ∃ (S' cN' : Nat) (sa' sl' ch' hd' nx' : Nat → Int32), SK S' cN' sa' sl' ch' I' R' ∧ HK S' hd' nx' I' R' ∧ 0 ≤ x.toInt ∧ x.toInt < S' ∧ S ≤ S' ∧ S' ≤ S + 1 ∧ cN ≤ cN' ∧ cN' ≤ cN + m ∧ (∀ s, s < S → sa' s = sa s ∧ sl' s = sl s) ∧ ∀ i, i < cN → ch' i = ch i
theorem nI_toNat {k : Nat} (h : k < 1073741824) : (nI k).toNatClampNeg = k := by
  show (nI k).toInt.toNat = k
  rw [nI_val h]
  omega
theorem nI_plus {k j : Nat} {x : Int32} (hx : x.toInt = j) (h : k + j < 1073741824) : nI k + x = nI (k + j) := by
  apply Int32.toInt_inj.mp
  rw [i_add (by rw [nI_val (by omega)]; omega) (by rw [nI_val (by omega)]; omega), nI_val (by omega), nI_val h, hx]
  omega
theorem sym_new {R1 : rR} {hh x1 : Int32} (hY : SK S cN sa sl ch I R) (hH : HK S hd nx I R) (hU : CU m cu I R) (hm : x1.toInt = m) (hroom : cN + m ≤ 66000) (hS : S < 24000) (hb : 0 ≤ hh.toInt ∧ hh.toInt < 4096) (c1 : ∀ i, i < cN → R1 1 i = some (ch i)) (c2 : ∀ j, j < m → R1 1 (cN + j) = some (cu j)) (q1 : R' 1 = R1 1)
    (q4 : R' 4 (nI S).toNatClampNeg = some (nI cN)) (q4' : ∀ b, b ≠ (nI S).toNatClampNeg → R' 4 b = R 4 b) (q5 : R' 5 (nI S).toNatClampNeg = some x1) (q5' : ∀ b, b ≠ (nI S).toNatClampNeg → R' 5 b = R 5 b)
    (q6 : R' 6 (nI S).toNatClampNeg = some (hd hh.toNatClampNeg)) (q6' : ∀ b, b ≠ (nI S).toNatClampNeg → R' 6 b = R 6 b) (q7 : R' 7 hh.toNatClampNeg = some (nI S)) (q7' : ∀ b, b ≠ hh.toNatClampNeg → R' 7 b = R 7 b) (i8 : I' 8 = some (nI S + 1)) (i3 : I' 3 = some (nI cN + x1)) : SX S cN m sa sl ch (nI S) I' R' := by
  have e1 : (1 : Int32).toInt = ((1 : Nat) : Int) := rfl
  have eS := nI_toNat (k := S) (by omega)
  have vS := nI_val (n := S) (by omega)
  have vC := nI_val (n := cN) (by omega)
  rw [eS] at q4 q4' q5 q5' q6 q6'
  obtain ⟨a1, a2, a3, a4, a5, a6⟩ := hY
  refine ⟨S + 1, cN + m, fun s => if s = S then nI cN else sa s, fun s => if s = S then x1 else sl s, fun i => if i < cN then ch i else cu (i - cN), fun h => if h = hh.toNatClampNeg then nI S else hd h, fun s => if s = S then hd hh.toNatClampNeg else nx s, ⟨?_, ?_, by omega, by omega, fun s hs => ?_, fun i hi => ?_⟩, ⟨fun h h1 => ?_, fun s hs => ?_⟩, by omega, by omega, by omega, by omega, by omega, by omega, fun s hs => ?_, fun i hi => ?_⟩
  · rw [i8, nI_plus e1 (by omega)]
  · rw [i3, nI_plus hm (by omega)]
  · by_cases h : s = S
    · subst h
      simp only [if_true]
      refine ⟨q4, q5, by omega, by omega, by omega⟩
    · simp only [if_neg h]
      rw [q4' s h, q5' s h]
      obtain ⟨b1, b2, b3, b4, b5⟩ := a5 s (by omega)
      exact ⟨b1, b2, b3, b4, by omega⟩
  · rw [q1]
    by_cases h : i < cN
    · simp only [if_pos h]
      exact ⟨c1 i h, (a6 i h).2⟩
    · simp only [if_neg h]
      have := c2 (i - cN) (by omega)
      rw [show cN + (i - cN) = i by omega] at this
      exact ⟨this, (hU (i - cN) (by omega)).2⟩
  · by_cases e : h = hh.toNatClampNeg
    · subst e
      simp only [if_true]
      exact ⟨q7, by omega, by omega⟩
    · simp only [if_neg e]
      rw [q7' h e]
      obtain ⟨b1, b2, b3⟩ := hH.1 h h1
      exact ⟨b1, b2, by omega⟩
  · by_cases h : s = S
    · subst h
      simp only [if_true]
      obtain ⟨b1, b2, b3⟩ := hH.h hb.1 hb.2
      exact ⟨q6, b2, b3⟩
    · simp only [if_neg h]
      rw [q6' s h]
      exact hH.2 s (by omega)
  · have : s ≠ S := by omega
    simp only [if_neg this]
    exact ⟨trivial, trivial⟩
  · simp only [if_pos hi]
end MIS
