/-! the reader (my own text) -/
section MIR
variable {g : xe_G} {Y : yT} {M : mi_H}
theorem WF.rd {r c b vd n : Nat} (h : WF g Y M) (hY : Y.1 r = some (9, [c, b, vd, n])) : ∃ a : Int32, mi_gf M r 9 3 = some (.int a) ∧ 0 ≤ a.toInt ∧ a.toInt ≤ n := by
  obtain ⟨l, h1, -, -, -, x, h2, h3⟩ := (h.1 r 9 _ hY).obj (by decide)
  exact ⟨x, gf_ob h1 h2, h3⟩
theorem WF.rdb {r c b vd n : Nat} {a : Int32} (h : WF g Y M) (hY : Y.1 r = some (9, [c, b, vd, n])) (hg : mi_gf M r 9 3 = some (.int a)) : 0 ≤ a.toInt ∧ a.toInt ≤ n := by
  obtain ⟨x, h1, h2⟩ := h.rd hY
  rw [h1] at hg
  cases hg
  exact h2
theorem WF.bn {b da n : Nat} (h : WF g Y M) (hY : Y.1 b = some (1, [da, n])) : n < 1073741824 := (h.bytes hY).1.2.2
def ix (n : Nat) (f : Nat → Int32) (x a : Int32) : Int32 := if x = 1 then sp_u1 n f a else if x = 2 then sp_u2 n f a else sp_u4 n f a
/-- what taking an item leaves: in the good case the reader's place and item -/
def qT (g : xe_G) (Y : yT) (r vd da n : Nat) (a x1 : Int32) (M : mi_H) : Option Value → mi_H → Prop := fun v M' => (∃ x : Int32, v = some (.int x) ∧ (x = 0 ∨ x = 1 ∧ a.toInt + x1.toInt ≤ n ∧ mi_gf M' r 9 3 = some (.int (a + x1)) ∧ mi_gf M' r 9 4 = some (.int (ix n (Y.2 da) x1 a)))) ∧ sf g Y [r, vd] M M'
theorem le_room {a x : Int32} {n : Nat} (hn : n < 1073741824) (h0 : 0 ≤ a.toInt) (h1 : a.toInt ≤ n) (hx : 0 ≤ x.toInt) (h : x ≤ nI n - a) : a.toInt + x.toInt ≤ n ∧ (a + x).toInt = a.toInt + x.toInt := by
  have h2 := i_le h
  rw [i_sub (by rw [nI_val hn]; omega) (by rw [nI_val hn]; omega), nI_val hn] at h2
  exact ⟨by omega, i_add (by omega) (by omega)⟩
theorem xtr_at {l : List Value} {c b vd n : Nat} {x : Int32} (hl : 3 < l.length) (h0 : 0 ≤ x.toInt) (h1 : x.toInt ≤ n) : xtr Y M (l.set 3 (.int x)) 9 [c, b, vd, n] := ⟨x, by rw [List.getElem?_set_self hl], h0, h1⟩
/-- attributes: one, several -/
def a1 (f : Nat → Int32) (n : Nat) (a a' : Int32) : Prop := 0 ≤ a.toInt ∧ a.toInt + 6 ≤ n ∧ 0 ≤ (sp_u4 n f (a + 2)).toInt ∧ a.toInt + 6 + (sp_u4 n f (a + 2)).toInt ≤ n ∧ a' = a + 6 + sp_u4 n f (a + 2)
def an (f : Nat → Int32) (n : Nat) : Nat → Int32 → Int32 → Prop
  | 0, a, a' => a' = a
  | k + 1, a, a' => ∃ b, an f n k a b ∧ a1 f n b a'
theorem an.aw {f : Nat → Int32} {n : Nat} : ∀ {k j : Nat} {a a' : Int32}, an f n k a a' → AW f n j a' → AW f n (k + j) a
  | 0, j, a, a', h, h' => by
    cases h
    rw [Nat.zero_add]
    exact h'
  | k + 1, j, a, a', ⟨b, h1, h2, h3, h4, h5, h6⟩, h' => by
    subst h6
    have := an.aw h1 (j := j + 1) ⟨h2, h3, h4, h5, h'⟩
    rwa [show k + 1 + j = k + (j + 1) by omega]
theorem an.all {f : Nat → Int32} {n k : Nat} {a a' : Int32} (h : an f n k a a') (h0 : 0 ≤ a'.toInt) (h1 : a'.toInt ≤ n) : AW f n k a := an.aw (j := 0) h ⟨h0, h1⟩
theorem u2_pos {n : Nat} {f : Nat → Int32} {a : Int32} : 0 ≤ (sp_u2 n f a).toInt := by
  have key : ∀ x y : Int32, 0 ≤ (((x &&& 255) <<< (8 &&& 31)) ||| (y &&& 255)).toInt := by
    intro x y
    have : (((x &&& 255) <<< ((8 : Int32) &&& 31)) ||| (y &&& 255)).toBitVec.msb = false := by
      show (((x.toBitVec &&& 255#32) <<< (8 : Nat)) ||| (y.toBitVec &&& 255#32)).msb = false
      simp [BitVec.msb_eq_getLsbD_last]
    have h2 := BitVec.toInt_eq_toNat_of_msb this
    show 0 ≤ (((x &&& 255) <<< ((8 : Int32) &&& 31)) ||| (y &&& 255)).toBitVec.toInt
    rw [h2]
    omega
  unfold sp_u2
  split
  · decide
  · split
    · exact key _ _
    · decide
end MIR
