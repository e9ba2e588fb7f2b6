/-! bytes as numbers (my own text) -/
section SPA
theorem nI_bv {x : Nat} : (nI x).toBitVec = BitVec.ofNat 32 x := rfl
theorem nI_cat {x y s : Nat} (hs : s < 32) (hx : x * 2 ^ s < 2 ^ 32) (hy : y < 2 ^ s) : (nI x <<< nI s ||| nI y) = nI (x * 2 ^ s + y) := by
  apply Int32.toBitVec_inj.mp
  rw [Int32.toBitVec_or, nI_bv, nI_bv]
  apply BitVec.eq_of_toNat_eq
  have hp : 0 < 2 ^ s := Nat.two_pow_pos s
  have hx2 : x < 2 ^ 32 := Nat.lt_of_le_of_lt (Nat.le_mul_of_pos_right x hp) hx
  have hs2 : 2 ^ s < 2 ^ 32 := Nat.pow_lt_pow_right (by decide) hs
  have e : (nI x <<< nI s).toBitVec.toNat = x * 2 ^ s := by
    rw [Int32.toBitVec_shiftLeft, nI_bv, nI_bv]
    have e1 : (BitVec.ofNat 32 s).smod 32 = BitVec.ofNat 32 s := by
      have hsm : ∀ s, s < 32 → (BitVec.ofNat 32 s).smod 32 = BitVec.ofNat 32 s := by decide +kernel
      exact hsm s hs
    rw [e1]
    simp only [BitVec.shiftLeft_eq', BitVec.toNat_shiftLeft, BitVec.toNat_ofNat]
    rw [Nat.mod_eq_of_lt hx2, Nat.mod_eq_of_lt (show s < 2 ^ 32 by omega), Nat.shiftLeft_eq, Nat.mod_eq_of_lt hx]
  rw [BitVec.toNat_or, e]
  simp only [BitVec.toNat_ofNat]
  rw [Nat.mod_eq_of_lt (show y < 2 ^ 32 by omega)]
  have hlt : x * 2 ^ s + y < 2 ^ 32 := by
    have h1 : (x + 1) * 2 ^ s ≤ 2 ^ 32 := by
      have h2 : x < 2 ^ (32 - s) := by
        rw [← Nat.mul_lt_mul_right hp, ← Nat.pow_add, show 32 - s + s = 32 by omega]
        exact hx
      have h3 : (x + 1) * 2 ^ s ≤ 2 ^ (32 - s) * 2 ^ s := Nat.mul_le_mul_right _ h2
      rw [← Nat.pow_add, show 32 - s + s = 32 by omega] at h3
      exact h3
    rw [Nat.add_mul, Nat.one_mul] at h1
    omega
  rw [Nat.mod_eq_of_lt hlt, ← Nat.shiftLeft_eq, ← Nat.shiftLeft_add_eq_or_of_lt hy]
def by1 (f : Nat → Int32) (p : Nat) : Nat := (f p &&& 255).toInt.toNat
def by2 (f : Nat → Int32) (p : Nat) : Nat := by1 f p * 256 + by1 f (p + 1)
def by4 (f : Nat → Int32) (p : Nat) : Nat := by2 f p * 65536 + by2 f (p + 2)
theorem and255 (x : Int32) : 0 ≤ (x &&& 255).toInt ∧ (x &&& 255).toInt < 256 := by
  obtain ⟨j, hj, e⟩ := pk_andE x (m := 255) 8 (by decide)
  rw [e]
  show 0 ≤ (Int32.ofNat j).toInt ∧ (Int32.ofNat j).toInt < 256
  rw [Int32.toInt_ofNat_of_lt (by omega)]
  omega
theorem by1_lt (f : Nat → Int32) (p : Nat) : by1 f p < 256 := by
  have := and255 (f p)
  unfold by1
  omega
set_option maxRecDepth 4000 in
theorem by1_eq (f : Nat → Int32) (p : Nat) : f p &&& 255 = nI (by1 f p) := by
  apply Int32.toInt_inj.mp
  have := and255 (f p)
  rw [nI_val (by have := by1_lt f p; omega)]
  unfold by1
  omega
theorem by2_lt (f : Nat → Int32) (p : Nat) : by2 f p < 65536 := by
  have := by1_lt f p
  have := by1_lt f (p + 1)
  unfold by2
  omega
theorem by4_lt (f : Nat → Int32) (p : Nat) : by4 f p < 4294967296 := by
  have := by2_lt f p
  have := by2_lt f (p + 2)
  unfold by4
  omega
theorem pI_i (p n : Nat) (h : p < n) (hn : n ≤ 65540) : ¬ nI p < 0 ∧ (nI p).toNatClampNeg = p := by
  refine ⟨fun h9 => ?_, nI_toNat (by omega)⟩
  have h2 := Int32.lt_iff_toInt_lt.mp h9
  rw [nI_val (by omega)] at h2
  have h4 : (0 : Int32).toInt = 0 := rfl
  omega
theorem lt_nI {p n : Nat} (hp : p < 1073741824) (hn : n < 1073741824) : nI p < nI n ↔ p < n := by
  rw [Int32.lt_iff_toInt_lt, nI_val hp, nI_val hn]
  omega
theorem nI_sub {p k : Nat} {x : Int32} (hx : x.toInt = k) (hk : k < 1073741824) (h : p < 1073741824) : (nI p - x).toInt = (p : Int) - k := by
  rw [Int32.toInt_sub, nI_val h, hx]
  exact Int.bmod_eq_of_le (by omega) (by omega)
theorem nI_n0 {p : Nat} (h : p < 1073741824) : ¬ nI p < 0 := fun h9 => by
  have h2 := Int32.lt_iff_toInt_lt.mp h9
  rw [nI_val h] at h2
  have h4 : (0 : Int32).toInt = 0 := rfl
  omega
theorem u1_nI {f : Nat → Int32} {n p : Nat} (hn : n ≤ 65540) (h : p < n) : sp_u1 n f (nI p) = nI (by1 f p) := by
  unfold sp_u1
  rw [if_neg (nI_n0 (by omega)), if_pos ((lt_nI (by omega) (by omega)).mpr h), nI_toNat (by omega), by1_eq]
theorem nI_add1 {p k : Nat} {x : Int32} (hx : x = nI k) (h : p + k < 1073741824) : nI p + x = nI (p + k) := by
  subst hx
  exact nI_plus (nI_val (by omega)) h
theorem u2_nI {f : Nat → Int32} {n p : Nat} (hn : n ≤ 65540) (h : p + 2 ≤ n) : sp_u2 n f (nI p) = nI (by2 f p) := by
  unfold sp_u2
  have h1 : nI p < nI n - 1 := by
    rw [Int32.lt_iff_toInt_lt, nI_sub (k := 1) rfl (by decide) (by omega), nI_val (by omega)]
    omega
  rw [if_neg (nI_n0 (by omega)), if_pos h1, nI_toNat (by omega), nI_plus (j := 1) rfl (by omega), nI_toNat (by omega), by1_eq, by1_eq]
  have := by1_lt f p
  exact nI_cat (x := by1 f p) (y := by1 f (p + 1)) (s := 8) (by decide) (by omega) (by1_lt f (p + 1))
theorem nI_or {x y : Nat} : nI x ||| nI y = nI (x ||| y) := by
  apply Int32.toBitVec_inj.mp
  rw [Int32.toBitVec_or, nI_bv, nI_bv, nI_bv]
  apply BitVec.eq_of_toNat_eq
  rw [BitVec.toNat_or]
  simp only [BitVec.toNat_ofNat]
  rw [Nat.or_mod_two_pow]
theorem nI_shl {x s : Nat} (hs : s < 32) (hx : x * 2 ^ s < 2 ^ 32) : nI x <<< nI s = nI (x * 2 ^ s) := by
  have h := nI_cat (y := 0) hs hx (Nat.two_pow_pos s)
  rw [show nI 0 = (0 : Int32) from rfl, Int32.or_zero, Nat.add_zero] at h
  exact h
theorem shl24 (x : Int32) : x <<< nI 24 = (x &&& 255) <<< nI 24 := by
  apply Int32.toBitVec_inj.mp
  rw [Int32.toBitVec_shiftLeft, Int32.toBitVec_shiftLeft, Int32.toBitVec_and]
  generalize x.toBitVec = y
  apply BitVec.eq_of_toNat_eq
  have e1 : ((nI 24).toBitVec).smod 32 = 24#32 := by decide
  rw [e1]
  simp only [BitVec.shiftLeft_eq', BitVec.toNat_shiftLeft, BitVec.toNat_and]
  have e2 : (255 : Int32).toBitVec.toNat = 2 ^ 8 - 1 := by decide
  rw [e2, Nat.and_two_pow_sub_one_eq_mod]
  have e3 : (24#32).toNat = 24 := by decide
  rw [e3, Nat.shiftLeft_eq, Nat.shiftLeft_eq]
  omega
theorem or4 {a b c d : Nat} (hb : b < 256) (hc : c < 256) (hd : d < 256) : a * 2 ^ 24 ||| b * 2 ^ 16 ||| c * 2 ^ 8 ||| d = (a * 256 + b) * 65536 + (c * 256 + d) := by
  have h1 : a * 2 ^ 24 ||| b * 2 ^ 16 = (a * 256 + b) * 2 ^ 16 := by
    rw [← Nat.shiftLeft_eq a, ← Nat.shiftLeft_add_eq_or_of_lt (show b * 2 ^ 16 < 2 ^ 24 by omega), Nat.shiftLeft_eq]
    omega
  have h2 : (a * 256 + b) * 2 ^ 16 ||| c * 2 ^ 8 = ((a * 256 + b) * 256 + c) * 2 ^ 8 := by
    rw [← Nat.shiftLeft_eq (a * 256 + b), ← Nat.shiftLeft_add_eq_or_of_lt (show c * 2 ^ 8 < 2 ^ 16 by omega), Nat.shiftLeft_eq]
    omega
  rw [h1, h2, ← Nat.shiftLeft_eq ((a * 256 + b) * 256 + c), ← Nat.shiftLeft_add_eq_or_of_lt (show d < 2 ^ 8 by omega), Nat.shiftLeft_eq]
  omega
theorem u4_nI {f : Nat → Int32} {n p : Nat} (hn : n ≤ 65540) (h : p + 4 ≤ n) : sp_u4 n f (nI p) = nI (by4 f p) := by
  unfold sp_u4
  have h1 : nI p < nI n - 3 := by
    rw [Int32.lt_iff_toInt_lt, nI_sub (k := 3) rfl (by decide) (by omega), nI_val (by omega)]
    omega
  rw [if_neg (nI_n0 (by omega)), if_pos h1, nI_toNat (by omega), nI_plus (j := 1) rfl (by omega), nI_plus (j := 2) rfl (by omega), nI_plus (j := 3) rfl (by omega), nI_toNat (by omega), nI_toNat (by omega), nI_toNat (by omega), show (24 &&& 31 : Int32) = nI 24 by decide, show (16 &&& 31 : Int32) = nI 16 by decide, show (8 &&& 31 : Int32) = nI 8 by decide, shl24, by1_eq, by1_eq, by1_eq, by1_eq]
  have h1 := by1_lt f p
  have h2 := by1_lt f (p + 1)
  have h3 := by1_lt f (p + 2)
  have h4 := by1_lt f (p + 3)
  rw [nI_shl (s := 24) (by decide) (by omega), nI_shl (s := 16) (by decide) (by omega), nI_shl (s := 8) (by decide) (by omega), nI_or, nI_or, nI_or, or4 h2 h3 h4]
  rfl
end SPA
section SPB
theorem sz_eq {n : Nat} {f : Nat → Int32} : sp_size n f = nI n := rfl
theorem le_sz {n p k : Nat} {f : Nat → Int32} {x : Int32} (hx : x.toInt = k) (hk : k < 1000000) (hn : n ≤ 65540) (hp : p ≤ n) : x ≤ sp_size n f - nI p ↔ p + k ≤ n := by
  have e : (nI n - nI p).toInt = (n : Int) - p := by
    rw [Int32.toInt_sub, nI_val (by omega), nI_val (by omega)]
    exact Int.bmod_eq_of_le (by omega) (by omega)
  rw [sz_eq, Int32.le_iff_toInt_le, e, hx]
  omega
end SPB
section SPC
theorem le_nI {p n : Nat} (hp : p < 1073741824) (hn : n < 1073741824) : nI p ≤ nI n ↔ p ≤ n := by
  rw [Int32.le_iff_toInt_le, nI_val hp, nI_val hn]
  omega
theorem eq_nI {p n : Nat} (hp : p < 1073741824) (hn : n < 1073741824) : nI p = nI n ↔ p = n := by
  refine ⟨fun h => ?_, fun h => by rw [h]⟩
  have h2 := congrArg Int32.toInt h
  rw [nI_val hp, nI_val hn] at h2
  omega
theorem nI_big {p n : Nat} (hp : p < 4294967296) (hn : n < 4294967296) : nI p = nI n ↔ p = n := by
  refine ⟨fun h => ?_, fun h => by rw [h]⟩
  have h2 := congrArg (fun x : Int32 => x.toBitVec.toNat) h
  have h3 : p % 2 ^ 32 = n % 2 ^ 32 := h2
  omega
end SPC
section SPE
theorem nI_val31 {x : Nat} (h : x < 2147483648) : (nI x).toInt = x := by
  show (Int32.ofNat x).toInt = x
  exact Int32.toInt_ofNat_of_lt h
theorem neg_nI {x : Nat} (h : x < 4294967296) : nI x < 0 ↔ 2147483648 ≤ x := by
  rw [Int32.lt_iff_toInt_lt]
  have h4 : (0 : Int32).toInt = 0 := rfl
  by_cases h1 : x < 2147483648
  · rw [nI_val31 h1]
    omega
  · have e : (nI x).toInt = (x : Int) - 4294967296 := by
      show (Int32.ofNat x).toInt = _
      rw [Int32.toInt_ofNat', show Int32.size = 4294967296 from rfl]
      unfold Int.bmod
      dsimp only
      split <;> omega
    rw [e]
    omega
theorem le_szn {n p x : Nat} {f : Nat → Int32} (hx : x < 2147483648) (hn : n ≤ 65540) (hp : p ≤ n) : nI x ≤ sp_size n f - nI p ↔ p + x ≤ n := by
  have e : (nI n - nI p).toInt = (n : Int) - p := by
    rw [Int32.toInt_sub, nI_val (by omega), nI_val (by omega)]
    exact Int.bmod_eq_of_le (by omega) (by omega)
  rw [sz_eq, Int32.le_iff_toInt_le, e, nI_val31 hx]
  omega
end SPE
section SPF
theorem nmin_nI {a b : Nat} (ha : a < 1073741824) (hb : b < 1073741824) : (if nI b < nI a then nI b else nI a) = nI (min a b) := by
  split
  · rename_i h
    have := (lt_nI hb ha).mp h
    rw [Nat.min_eq_right (by omega)]
  · rename_i h
    have : ¬ b < a := fun h9 => h ((lt_nI hb ha).mpr h9)
    rw [Nat.min_eq_left (by omega)]
theorem nmax_nI {a b : Nat} (ha : a < 1073741824) (hb : b < 1073741824) : (if nI a < nI b then nI b else nI a) = nI (max a b) := by
  split
  · rename_i h
    have := (lt_nI ha hb).mp h
    rw [Nat.max_eq_right (by omega)]
  · rename_i h
    have : ¬ a < b := fun h9 => h ((lt_nI ha hb).mpr h9)
    rw [Nat.max_eq_left (by omega)]
theorem ndiv_nI {a k : Nat} {x : Int32} (hx : x.toInt = k) (hk : 0 < k) (ha : a < 1073741824) : nI a / x = nI (a / k) := by
  apply Int32.toInt_inj.mp
  have h1 : a / k ≤ a := Nat.div_le_self a k
  rw [Int32.toInt_div, nI_val ha, hx, nI_val (by omega)]
  rw [show (a : Int).tdiv (k : Int) = ((a / k : Nat) : Int) from (Int.ofNat_tdiv a k).symm]
  generalize a / k = y at *
  exact Int.bmod_eq_of_le (by omega) (by omega)
end SPF
theorem nmax0 {a : Nat} (ha : a < 1073741824) : (if (0 : Int32) < nI a then nI a else 0) = nI a := by
  have h := nmax_nI (a := 0) (b := a) (by decide) ha
  rw [Nat.max_eq_right (Nat.zero_le a)] at h
  exact h
