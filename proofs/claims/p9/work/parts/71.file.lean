/-! the reference: a file that was accepted (my own text) -/
section MIA4
def GD (n : Nat) (f : Nat → Int32) (I : rI) (R : rR) : Prop := ∃ (S cN : Nat) (sa sl ch : Nat → Int32) (cp mj : Int32) (pa py : Nat → Int32) (hA fA mA aA nf ni : Int32) (kf km : Nat), FK n f I R ∧ SK S cN sa sl ch I R ∧ PK n f S cp mj pa py I R ∧ EK f cp pa py sa sl ch ∧ FO f n cp mj hA fA mA aA ∧ I 54 = some hA ∧ I 58 = some nf ∧ I 61 = some ni ∧ kf ≤ 8192 ∧ I 25 = some (nI kf) ∧ FKN kf R ∧ km ≤ 8192 ∧ I 26 = some (nI km) ∧ MKN f n S sa sl ch km R ∧ NW f n I
theorem pk_of {n S : Nat} {f : Nat → Int32} {cp mj : Int32} {I : rI} {R : rR} (h : PEN f n S cp.toInt.toNat R) (hc : 1 ≤ cp.toInt ∧ cp.toInt ≤ 65535) (i1 : I 51 = some 0) (i2 : I 52 = some cp) (i3 : I 53 = some mj) : ∃ pa py, PK n f S cp mj pa py I R := by
  refine ⟨fun j => (R 21 j).getD 0, fun j => (R 22 j).getD 0, i1, i2, i3, hc, fun j h1 h2 => ?_⟩
  obtain ⟨a, b1, b2⟩ := h.2 j h1 h2
  simp only [b1, Option.getD_some]
  refine ⟨trivial, b2.imp id (fun ⟨c1, c2, c3⟩ => ⟨c1, c2, fun e => ?_⟩)⟩
  obtain ⟨sy, e1, e2, e3⟩ := c3 e
  simp only [e1, Option.getD_some]
  exact ⟨trivial, e2, e3⟩
theorem nw_0 {n : Nat} {f : Nat → Int32} {I : rI} (h : ∀ k, k ∈ [65, 66, 67, 68, 69, 72] → ∃ v, I k = some v) (h0 : I 70 = some (-1)) (h1 : I 71 = some 0) : NW f n I := ⟨h, -1, 0, h0, h1, by decide, Or.inl rfl⟩
end MIA4
