/-! an instruction taken apart: fields that stay, sizes (my own text) -/
section MIN
def kj (j : Nat) : Bool := match j with
  | 2 => true
  | 4 => true
  | 9 => true
  | 11 => true
  | _ => false
variable {g : xe_G} {Y : yT} {M : mi_H} {o : Nat}
def sk (g : xe_G) (Y : yT) (o : Nat) (M M' : mi_H) : Prop := sf g Y [o] M M' ∧ ∀ j w, kj j = true → mi_gf M o 5 j = some w → mi_gf M' o 5 j = some w
theorem sk.rf (h : WF g Y M) : sk g Y o M M := ⟨sf.rf h, fun _ _ _ h => h⟩
theorem sk.tr {M1 M2 : mi_H} (h : sk g Y o M M1) (h' : sk g Y o M1 M2) : sk g Y o M M2 := ⟨h.1.tr h'.1 (fun _ q => q), fun j w hj hw => h'.2 j w hj (h.2 j w hj hw)⟩
theorem sk.put {M1 M2 : mi_H} {j : Nat} {v : Value} (h : sk g Y o M M1) (h' : st g Y M M2) (hp : pf M1 M2 o 5 j v) (hj : kj j = false) : sk g Y o M M2 := by
  refine ⟨h.1.put h' hp (by simp), fun i w hi hw => hp.2.1 i w ?_ (h.2 i w hi hw)⟩
  intro e
  subst e
  rw [hj] at hi
  cases hi
def kZ (g : xe_G) (Y : yT) (o : Nat) (M : mi_H) : Option Value → mi_H → Prop := fun v M' => (∃ x : Int32, v = some (.int x) ∧ (x = 0 ∨ x = 1)) ∧ sk g Y o M M'
/-- the size that is found lies within the code -/
def qS (g : xe_G) (Y : yT) (o k : Nat) (pc0 : Int32) (M : mi_H) : Option Value → mi_H → Prop := fun v M' => (∃ x : Int32, v = some (.int x) ∧ (x = 0 ∨ x = 1 ∧ ∃ sz : Int32, mi_gf M' o 5 4 = some (.int sz) ∧ 1 ≤ sz.toInt ∧ pc0.toInt + sz.toInt ≤ k)) ∧ sf g Y [o] M M'
theorem qS_z {x : Int32} {P : Prop} (h : x = 0 ∨ x = 1 ∧ P) : x = 0 ∨ x = 1 := h.imp id And.left
theorem WF.inst {b k : Nat} (h : WF g Y M) (hY : Y.1 o = some (5, [b, k])) : k < 1073741824 ∧ ∃ cl : Int32, mi_gf M o 5 2 = some (.int cl) ∧ 0 ≤ cl.toInt ∧ cl.toInt ≤ k := by
  obtain ⟨l, h1, -, -, -, h0, x, h2, h3⟩ := (h.1 o 5 _ hY).obj (by decide)
  exact ⟨h0, x, gf_ob h1 h2, h3⟩
theorem i_add {a b : Int32} (h : -2147483648 ≤ a.toInt + b.toInt) (h' : a.toInt + b.toInt < 2147483648) : (a + b).toInt = a.toInt + b.toInt := by
  rw [Int32.toInt_add]
  apply Int.bmod_eq_of_le <;> omega
theorem i_sub {a b : Int32} (h : -2147483648 ≤ a.toInt - b.toInt) (h' : a.toInt - b.toInt < 2147483648) : (a - b).toInt = a.toInt - b.toInt := by
  rw [Int32.toInt_sub]
  apply Int.bmod_eq_of_le <;> omega
theorem i_mul {a b : Int32} (h : -2147483648 ≤ a.toInt * b.toInt) (h' : a.toInt * b.toInt < 2147483648) : (a * b).toInt = a.toInt * b.toInt := by
  rw [Int32.toInt_mul]
  apply Int.bmod_eq_of_le <;> omega
theorem l_add {a b : Int64} (h : -9223372036854775808 ≤ a.toInt + b.toInt) (h' : a.toInt + b.toInt < 9223372036854775808) : (a + b).toInt = a.toInt + b.toInt := by
  rw [Int64.toInt_add]
  apply Int.bmod_eq_of_le <;> omega
theorem l_sub {a b : Int64} (h : -9223372036854775808 ≤ a.toInt - b.toInt) (h' : a.toInt - b.toInt < 9223372036854775808) : (a - b).toInt = a.toInt - b.toInt := by
  rw [Int64.toInt_sub]
  apply Int.bmod_eq_of_le <;> omega
theorem l_mul {a b : Int64} (h : -9223372036854775808 ≤ a.toInt * b.toInt) (h' : a.toInt * b.toInt < 9223372036854775808) : (a * b).toInt = a.toInt * b.toInt := by
  rw [Int64.toInt_mul]
  apply Int.bmod_eq_of_le <;> omega
theorem l_of {a : Int32} : (Int32.toInt64 a).toInt = a.toInt := Int32.toInt_toInt64 a
theorem i_of {a : Int64} (h : -2147483648 ≤ a.toInt) (h' : a.toInt < 2147483648) : (Int64.toInt32 a).toInt = a.toInt := by
  rw [Int64.toInt_toInt32]
  apply Int.bmod_eq_of_le <;> omega
theorem lc_ge {x y : Int64} (h : ¬ lg_cmp x y < 0) : y.toInt ≤ x.toInt := by
  unfold lg_cmp at h
  split at h
  · rename_i h1
    have := Int64.lt_iff_toInt_lt.mp h1
    omega
  · split at h
    · rename_i h2
      rw [h2]
      omega
    · exact absurd (by decide) h
theorem lc_le {x y : Int64} (h : lg_cmp x y ≤ 0) : x.toInt ≤ y.toInt := by
  unfold lg_cmp at h
  split at h
  · exact absurd h (by decide)
  · rename_i h1
    have := Int64.le_iff_toInt_le.mp (Int64.not_lt.mp h1)
    omega
theorem lc_lt {x y : Int64} (h : lg_cmp x y < 0) : x.toInt < y.toInt := by
  unfold lg_cmp at h
  split at h
  · exact absurd h (by decide)
  · split at h
    · exact absurd h (by decide)
    · rename_i h1 h2
      have h3 := Int64.le_iff_toInt_le.mp (Int64.not_lt.mp h1)
      have h4 : x.toInt ≠ y.toInt := fun e => h2 (Int64.toInt_inj.mp e)
      omega
theorem i_lt {a b : Int32} (h : a < b) : a.toInt < b.toInt := Int32.lt_iff_toInt_lt.mp h
theorem i_le {a b : Int32} (h : a ≤ b) : a.toInt ≤ b.toInt := Int32.le_iff_toInt_le.mp h
theorem i_nlt {a b : Int32} (h : ¬ a < b) : b.toInt ≤ a.toInt := Int32.le_iff_toInt_le.mp (Int32.not_lt.mp h)
theorem i_nle {a b : Int32} (h : ¬ a ≤ b) : b.toInt < a.toInt := Int32.lt_iff_toInt_lt.mp (Int32.not_le.mp h)
theorem lc_in {t : Int64} {n : Nat} (hn : n < 1073741824) (h0 : ¬ lg_cmp t 0 < 0) (h1 : lg_cmp t (Int32.toInt64 (nI n)) < 0) : vp_in (Int64.toInt32 t) n := by
  have a := lc_ge h0
  have b := lc_lt h1
  rw [l_of, nI_val hn] at b
  have z : (0 : Int64).toInt = 0 := rfl
  rw [z] at a
  have e := i_of (a := t) (by omega) (by omega)
  exact vin_iff (by omega) (by omega)
theorem pad4 {x : Int32} (h0 : 0 ≤ x.toInt) (h1 : x.toInt < 1073741824) : x.toInt < ((x &&& -4) + 4).toInt ∧ ((x &&& -4) + 4).toInt ≤ x.toInt + 4 := by
  have e1 : (x &&& (-4 : Int32)) = x - (x &&& 3) := by
    apply Int32.toBitVec_inj.mp
    show x.toBitVec &&& (-4 : Int32).toBitVec = x.toBitVec - (x.toBitVec &&& (3 : Int32).toBitVec)
    have h : x.toBitVec = (x.toBitVec &&& (-4 : Int32).toBitVec) + (x.toBitVec &&& (3 : Int32).toBitVec) := by
      rw [BitVec.add_eq_or_of_and_eq_zero]
      · rw [← BitVec.and_or_distrib_left]
        have : (-4 : Int32).toBitVec ||| (3 : Int32).toBitVec = BitVec.allOnes 32 := by decide
        rw [this, BitVec.and_allOnes]
      · have : (x.toBitVec &&& (-4 : Int32).toBitVec) &&& (x.toBitVec &&& (3 : Int32).toBitVec) = x.toBitVec &&& ((-4 : Int32).toBitVec &&& (3 : Int32).toBitVec) := by
          rw [BitVec.and_assoc, ← BitVec.and_assoc (-4 : Int32).toBitVec, BitVec.and_comm (-4 : Int32).toBitVec, BitVec.and_assoc, ← BitVec.and_assoc x.toBitVec, BitVec.and_self]
        rw [this]
        have : (-4 : Int32).toBitVec &&& (3 : Int32).toBitVec = 0#32 := by decide
        rw [this, BitVec.and_zero]
    conv => rhs; lhs; rw [h]
    rw [BitVec.add_sub_cancel]
  have e2 : 0 ≤ (x &&& 3).toInt ∧ (x &&& 3).toInt < 4 ∧ (x &&& 3).toInt ≤ x.toInt := by
    have hx : x.toInt = (x.toBitVec.toNat : Int) := by
      show x.toBitVec.toInt = _
      rw [BitVec.toInt_eq_toNat_of_msb]
      have := (BitVec.msb_eq_toInt (x := x.toBitVec))
      rw [this]
      exact decide_eq_false (by show ¬ x.toBitVec.toInt < 0; change 0 ≤ x.toBitVec.toInt at h0; omega)
    have h3 : (x &&& 3).toBitVec.toNat = x.toBitVec.toNat % 4 := by
      show (x.toBitVec &&& (3 : Int32).toBitVec).toNat = _
      rw [BitVec.toNat_and]
      exact Nat.and_two_pow_sub_one_eq_mod x.toBitVec.toNat 2
    have h4 : (x &&& 3).toInt = ((x &&& 3).toBitVec.toNat : Int) := by
      show (x &&& 3).toBitVec.toInt = _
      apply BitVec.toInt_eq_toNat_of_lt
      rw [h3]
      omega
    rw [h4, h3, hx]
    omega
  have e3 : (x - (x &&& 3)).toInt = x.toInt - (x &&& 3).toInt := i_sub (by omega) (by omega)
  have f4 : (4 : Int32).toInt = 4 := rfl
  rw [e1, i_add (by rw [e3, f4]; omega) (by rw [e3, f4]; omega), e3, f4]
  omega
/-- sizes of the two switches -/
theorem tab_sz {cl sa p x y : Int32} {k : Nat} (hk : k < 1073741824) (hcl : cl.toInt ≤ k) (h0 : 0 ≤ p.toInt) (h1 : p.toInt < sa.toInt) (h2 : sa.toInt ≤ p.toInt + 4) (hp : p.toInt < cl.toInt) (c62 : ¬ lg_cmp (Int32.toInt64 y - Int32.toInt64 x + 1) 1 < 0) (c84 : lg_cmp ((Int32.toInt64 y - Int32.toInt64 x + 1) * 4) (Int32.toInt64 (cl - sa - 12)) ≤ 0) :
    1 ≤ (sa + 12 + 4 * Int64.toInt32 (Int32.toInt64 y - Int32.toInt64 x + 1) - p).toInt ∧ p.toInt + (sa + 12 + 4 * Int64.toInt32 (Int32.toInt64 y - Int32.toInt64 x + 1) - p).toInt ≤ k := by
  have bx := Int32.toInt_lt x
  have bx' := Int32.le_toInt x
  have bY := Int32.toInt_lt y
  have bY' := Int32.le_toInt y
  have f1 : (1 : Int64).toInt = 1 := rfl
  have f4 : (4 : Int64).toInt = 4 := rfl
  have g4 : (4 : Int32).toInt = 4 := rfl
  have g12 : (12 : Int32).toInt = 12 := rfl
  have e1 : (Int32.toInt64 y - Int32.toInt64 x).toInt = y.toInt - x.toInt := by
    rw [l_sub (by rw [l_of, l_of]; omega) (by rw [l_of, l_of]; omega), l_of, l_of]
  have e2 : (Int32.toInt64 y - Int32.toInt64 x + 1).toInt = y.toInt - x.toInt + 1 := by
    rw [l_add (by rw [e1, f1]; omega) (by rw [e1, f1]; omega), e1, f1]
  have a1 := lc_ge c62
  rw [f1] at a1
  have a2 := lc_le c84
  generalize Int32.toInt64 y - Int32.toInt64 x + 1 = z at *
  have e3 : (z * 4).toInt = z.toInt * 4 := by
    rw [l_mul (by rw [f4]; omega) (by rw [f4]; omega), f4]
  have e4 : (cl - sa).toInt = cl.toInt - sa.toInt := i_sub (by omega) (by omega)
  have e5 : (cl - sa - 12).toInt = cl.toInt - sa.toInt - 12 := by
    rw [i_sub (by rw [e4, g12]; omega) (by rw [e4, g12]; omega), e4, g12]
  rw [e3, l_of, e5] at a2
  have e6 : (Int64.toInt32 z).toInt = z.toInt := i_of (by omega) (by omega)
  have e7 : (4 * Int64.toInt32 z).toInt = 4 * z.toInt := by
    rw [i_mul (by rw [e6, g4]; omega) (by rw [e6, g4]; omega), e6, g4]
  have e8 : (sa + 12).toInt = sa.toInt + 12 := by
    rw [i_add (by rw [g12]; omega) (by rw [g12]; omega), g12]
  have e9 : (sa + 12 + 4 * Int64.toInt32 z).toInt = sa.toInt + 12 + 4 * z.toInt := by
    rw [i_add (by rw [e8, e7]; omega) (by rw [e8, e7]; omega), e8, e7]
  have e10 : (sa + 12 + 4 * Int64.toInt32 z - p).toInt = sa.toInt + 12 + 4 * z.toInt - p.toInt := by
    rw [i_sub (by rw [e9]; omega) (by rw [e9]; omega), e9]
  rw [e10]
  omega
theorem i_div8 {a : Int32} (h : 0 ≤ a.toInt) : (a / 8).toInt = a.toInt / 8 := by
  have f : (8 : Int32).toInt = 8 := rfl
  rw [Int32.toInt_div, f, Int.tdiv_eq_ediv_of_nonneg h]
  apply Int.bmod_eq_of_le <;> have := Int32.toInt_lt a <;> omega
theorem look_sz {cl sa p x : Int32} {k : Nat} (hk : k < 1073741824) (hcl : cl.toInt ≤ k) (h0 : 0 ≤ p.toInt) (h1 : p.toInt < sa.toInt) (h2 : sa.toInt ≤ p.toInt + 4) (hp : p.toInt < cl.toInt) (c11 : 8 ≤ cl - sa) (c34 : ¬ x < 0) (c56 : x ≤ (cl - sa - 8) / 8) :
    1 ≤ (sa + 8 + 8 * x - p).toInt ∧ p.toInt + (sa + 8 + 8 * x - p).toInt ≤ k := by
  have g8 : (8 : Int32).toInt = 8 := rfl
  have e4 : (cl - sa).toInt = cl.toInt - sa.toInt := i_sub (by omega) (by omega)
  have a0 := i_le c11
  rw [e4, g8] at a0
  have e5 : (cl - sa - 8).toInt = cl.toInt - sa.toInt - 8 := by
    rw [i_sub (by rw [e4, g8]; omega) (by rw [e4, g8]; omega), e4, g8]
  have a1 := nneg c34
  have a2 := i_le c56
  rw [i_div8 (by rw [e5]; omega), e5] at a2
  have e7 : (8 * x).toInt = 8 * x.toInt := by
    rw [i_mul (by rw [g8]; omega) (by rw [g8]; omega), g8]
  have e8 : (sa + 8).toInt = sa.toInt + 8 := by
    rw [i_add (by rw [g8]; omega) (by rw [g8]; omega), g8]
  have e9 : (sa + 8 + 8 * x).toInt = sa.toInt + 8 + 8 * x.toInt := by
    rw [i_add (by rw [e8, e7]; omega) (by rw [e8, e7]; omega), e8, e7]
  have e10 : (sa + 8 + 8 * x - p).toInt = sa.toInt + 8 + 8 * x.toInt - p.toInt := by
    rw [i_sub (by rw [e9]; omega) (by rw [e9]; omega), e9]
  rw [e10]
  omega
theorem sz_in {cl p z : Int32} {k : Nat} (hk : k < 1073741824) (hcl : cl.toInt ≤ k) (h0 : 0 ≤ p.toInt) (hp : p.toInt < cl.toInt) (c : z ≤ cl - p) : p.toInt + z.toInt ≤ k := by
  have a := i_le c
  rw [i_sub (by omega) (by omega)] at a
  omega
end MIN
