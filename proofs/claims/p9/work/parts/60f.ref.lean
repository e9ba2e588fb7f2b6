/-! what the reference reads of a file (my own text) -/
section MIN2
def f1 (f : Nat → Int32) (x : Int32) : Int32 := f x.toNatClampNeg &&& 255
def f2 (f : Nat → Int32) (x : Int32) : Int32 := (f1 f x <<< (8 &&& 31)) ||| f1 f (x + 1)
def f4 (f : Nat → Int32) (x : Int32) : Int64 := ((Int32.toInt64 (f2 f x)) <<< (Int32.toInt64 16 &&& 63)) ||| (Int32.toInt64 (f2 f (x + 2)))
def FK (n : Nat) (f : Nat → Int32) (I : rI) (R : rR) : Prop := n ≤ 65540 ∧ I 49 = some 0 ∧ I 16 = some (nI n) ∧ ∀ i, i < n → R 12 i = some (f i)
variable {n : Nat} {f : Nat → Int32} {I I' : rI} {R R' : rR} {x : Int32}
theorem FK.mono (h : FK n f I R) (hI : ∀ k, k ∈ [16, 49] → I' k = I k) (hR : ∀ k, k ∈ [12] → R' k = R k) : FK n f I' R' :=
  ⟨h.1, (hI 49 (by decide)).trans h.2.1, (hI 16 (by decide)).trans h.2.2.1, fun i hi => by rw [hR 12 (by decide)]; exact h.2.2.2 i hi⟩
theorem z_add (x : Int32) : 0 + x = x := Int32.zero_add x
theorem vin_lt {x : Int32} {m : Nat} (h0 : 0 ≤ x.toInt) (h1 : x.toInt < m) : vp_in x m := by
  rintro (q | q)
  · exact nlt0 h0 q
  · have : m ≤ x.toInt.toNat := q
    omega
theorem FK.iin (h : FK n f I R) (h0 : 0 ≤ x.toInt) (h1 : x.toInt < n) : vp_in (0 + x) 65600 := by
  rw [z_add]
  have := h.1
  exact vin_lt h0 (by omega)
theorem FK.iat (h : FK n f I R) (h0 : 0 ≤ x.toInt) (h1 : x.toInt < n) : R 12 (0 + x).toNatClampNeg = some (f x.toNatClampNeg) := by
  rw [z_add]
  exact h.2.2.2 _ (by show x.toInt.toNat < n; omega)
theorem add_n {x k : Int32} {n : Nat} (hn : n ≤ 65600) (h0 : 0 ≤ x.toInt) (h1 : x.toInt ≤ n) (hk : 0 ≤ k.toInt) (hk' : k.toInt ≤ 1000000) : (x + k).toInt = x.toInt + k.toInt := i_add (by omega) (by omega)
theorem b255 (y : Int32) : (y &&& 255).toBitVec.toNat < 2 ^ 8 := by
  show (y.toBitVec &&& 255#32).toNat < 2 ^ 8
  rw [BitVec.toNat_and]
  exact Nat.lt_of_le_of_lt Nat.and_le_right (by decide)
theorem f2_nat : (f2 f x).toBitVec.toNat < 2 ^ 16 := by
  show (((f x.toNatClampNeg).toBitVec &&& 255#32) <<< (8 : Nat) ||| ((f (x + 1).toNatClampNeg).toBitVec &&& 255#32)).toNat < 2 ^ 16
  have hx := b255 (f x.toNatClampNeg)
  have hy := b255 (f (x + 1).toNatClampNeg)
  have hx : ((f x.toNatClampNeg).toBitVec &&& 255#32).toNat < 2 ^ 8 := hx
  have hy : ((f (x + 1).toNatClampNeg).toBitVec &&& 255#32).toNat < 2 ^ 8 := hy
  rw [BitVec.toNat_or]
  refine Nat.or_lt_two_pow ?_ (by omega)
  rw [BitVec.toNat_shiftLeft, Nat.shiftLeft_eq]
  exact Nat.lt_of_le_of_lt (Nat.mod_le _ _) (by omega)
theorem nat_int {y : Int32} (h : y.toBitVec.toNat < 2 ^ 16) : y.toInt = y.toBitVec.toNat := by
  have : y.toBitVec.toInt = y.toBitVec.toNat := BitVec.toInt_eq_toNat_of_lt (by omega)
  exact this
theorem f2_pos : 0 ≤ (f2 f x).toInt := by
  rw [nat_int f2_nat]
  omega
theorem f2_le : (f2 f x).toInt ≤ 65535 := by
  rw [nat_int f2_nat]
  have := f2_nat (f := f) (x := x)
  omega
theorem f1_pos : 0 ≤ (f1 f x).toInt ∧ (f1 f x).toInt ≤ 255 := by
  have h : (f1 f x).toBitVec.toNat < 2 ^ 8 := b255 _
  rw [nat_int (by omega)]
  omega
theorem f4_val : (f4 f x).toInt = (f2 f x).toInt * 65536 + (f2 f (x + 2)).toInt := by
  have ha := f2_nat (f := f) (x := x)
  have hb := f2_nat (f := f) (x := x + 2)
  rw [nat_int ha, nat_int hb]
  have e1 : (Int32.toInt64 (f2 f x)).toBitVec.toNat = (f2 f x).toBitVec.toNat := by
    show ((f2 f x).toBitVec.signExtend 64).toNat = _
    rw [BitVec.signExtend_eq_setWidth_of_msb_false (by rw [BitVec.msb_eq_false_iff_two_mul_lt]; omega), BitVec.toNat_setWidth]
    exact Nat.mod_eq_of_lt (by omega)
  have e2 : (Int32.toInt64 (f2 f (x + 2))).toBitVec.toNat = (f2 f (x + 2)).toBitVec.toNat := by
    show ((f2 f (x + 2)).toBitVec.signExtend 64).toNat = _
    rw [BitVec.signExtend_eq_setWidth_of_msb_false (by rw [BitVec.msb_eq_false_iff_two_mul_lt]; omega), BitVec.toNat_setWidth]
    exact Nat.mod_eq_of_lt (by omega)
  have e3 : (f4 f x).toBitVec.toNat = (f2 f x).toBitVec.toNat * 65536 + (f2 f (x + 2)).toBitVec.toNat := by
    show (((Int32.toInt64 (f2 f x)).toBitVec <<< (16 : Nat)) ||| (Int32.toInt64 (f2 f (x + 2))).toBitVec).toNat = _
    rw [BitVec.toNat_or, BitVec.toNat_shiftLeft, e1, e2, Nat.mod_eq_of_lt (by rw [Nat.shiftLeft_eq]; omega), ← Nat.shiftLeft_add_eq_or_of_lt (by omega), Nat.shiftLeft_eq]
  have e4 : (f4 f x).toBitVec.toInt = (f4 f x).toBitVec.toNat := BitVec.toInt_eq_toNat_of_lt (by rw [e3]; omega)
  show (f4 f x).toBitVec.toInt = _
  rw [e4, e3]
  omega
theorem f4_pos : 0 ≤ (f4 f x).toInt := by
  rw [f4_val]
  have := f2_pos (f := f) (x := x)
  have := f2_pos (f := f) (x := x + 2)
  omega
theorem f4_le : (f4 f x).toInt ≤ 4294967295 := by
  rw [f4_val]
  have := f2_le (f := f) (x := x)
  have := f2_le (f := f) (x := x + 2)
  omega
/-- so many steps one behind another -/
def itr (P : Int32 → Int32 → Prop) : Nat → Int32 → Int32 → Prop
  | 0, a, b => b = a
  | k + 1, a, b => ∃ c, itr P k a c ∧ P c b
theorem itr.front {P : Int32 → Int32 → Prop} : ∀ {k : Nat} {a b : Int32}, itr P (k + 1) a b → ∃ c, P a c ∧ itr P k c b
  | 0, a, b, ⟨c, h1, h2⟩ => by
    cases h1
    exact ⟨b, h2, rfl⟩
  | k + 1, a, b, ⟨c, h1, h2⟩ => by
    obtain ⟨e, h3, h4⟩ := itr.front h1
    exact ⟨e, h3, c, h4, h2⟩
theorem itr.ge {P : Int32 → Int32 → Prop} {w : Int} (hP : ∀ a b, P a b → a.toInt + w ≤ b.toInt) : ∀ {k : Nat} {a b : Int32}, itr P k a b → a.toInt + k * w ≤ b.toInt
  | 0, a, b, h => by
    cases h
    omega
  | k + 1, a, b, ⟨c, h1, h2⟩ => by
    have h3 := itr.ge hP h1
    have h4 := hP _ _ h2
    have : ((k + 1 : Nat) : Int) * w = k * w + w := by rw [Int.natCast_add, Int.add_mul]; omega
    omega
def RA1 (f : Nat → Int32) (n : Nat) (a b : Int32) : Prop := 0 ≤ a.toInt ∧ a.toInt + 6 ≤ n ∧ a.toInt + 6 + (f4 f (a + 2)).toInt ≤ n ∧ b.toInt = a.toInt + 6 + (f4 f (a + 2)).toInt
def AT (f : Nat → Int32) (n : Nat) (a b : Int32) : Prop := 0 ≤ a.toInt ∧ a.toInt + 2 ≤ n ∧ itr (RA1 f n) (f2 f a).toInt.toNat (a + 2) b ∧ b.toInt ≤ n
def MB1 (f : Nat → Int32) (n : Nat) (a b : Int32) : Prop := 0 ≤ a.toInt ∧ a.toInt + 6 ≤ n ∧ AT f n (a + 6) b
def MB (f : Nat → Int32) (n : Nat) (a b : Int32) : Prop := 0 ≤ a.toInt ∧ a.toInt + 2 ≤ n ∧ itr (MB1 f n) (f2 f a).toInt.toNat (a + 2) b ∧ b.toInt ≤ n
theorem lc_gt {x y : Int64} (h : ¬ lg_cmp x y ≤ 0) : y.toInt < x.toInt := by
  unfold lg_cmp at h
  split at h
  · rename_i h1
    exact Int64.lt_iff_toInt_lt.mp h1
  · split at h <;> exact absurd (by decide) h
end MIN2
