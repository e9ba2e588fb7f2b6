/-! the reference: a file that was read whole (my own text) -/
section MIW
/-- head, fields, methods, attributes: where each lies -/
def FO (f : Nat → Int32) (n : Nat) (cp mj hA fA mA aA : Int32) : Prop := (1 ≤ cp.toInt ∧ cp.toInt ≤ 65535) ∧ (8 ≤ hA.toInt ∧ hA.toInt + 8 + 2 * (f2 f (hA + 6)).toInt ≤ fA.toInt ∧ fA.toInt ≤ n) ∧ MB f n fA mA ∧ MB f n mA aA ∧ ∃ e, AT f n aA e
def FR (f : Nat → Int32) (n : Nat) (I : rI) (R : rR) : Prop := ∃ (S cN : Nat) (cp mj hA fA mA aA : Int32), SYM S cN I R ∧ PEN f n S cp.toInt.toNat R ∧ FO f n cp mj hA fA mA aA ∧ I 51 = some 0 ∧ I 52 = some cp ∧ I 53 = some mj ∧ I 54 = some hA ∧ I 55 = some fA ∧ I 56 = some mA ∧ I 57 = some aA
theorem MB1.ge {f : Nat → Int32} {n : Nat} (hn : n ≤ 65540) (a b : Int32) (h : MB1 f n a b) : a.toInt + 8 ≤ b.toInt := by
  obtain ⟨h0, h1, h2⟩ := h
  have h3 := at_ge hn h2
  have e : (6 : Int32).toInt = 6 := rfl
  rw [i_add (by omega) (by omega)] at h3
  omega
theorem mb_ge {f : Nat → Int32} {n : Nat} {a b : Int32} (hn : n ≤ 65540) (h : MB f n a b) : a.toInt + 2 ≤ b.toInt ∧ b.toInt ≤ n := by
  obtain ⟨h0, h1, h2, h3⟩ := h
  have h4 := itr.ge (w := 0) (fun a b h => by have := MB1.ge hn a b h; omega) h2
  have e : (2 : Int32).toInt = 2 := rfl
  rw [i_add (by omega) (by omega)] at h4
  exact ⟨by omega, h3⟩
end MIW
