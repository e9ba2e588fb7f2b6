/-! the reference: the pool's entries (my own text) -/
section MIU
def PK (n : Nat) (f : Nat → Int32) (S : Nat) (cp mj : Int32) (pa py : Nat → Int32) (I : rI) (R : rR) : Prop := I 51 = some 0 ∧ I 52 = some cp ∧ I 53 = some mj ∧ (1 ≤ cp.toInt ∧ cp.toInt ≤ 65535) ∧ ∀ j, 1 ≤ j → j < cp.toInt.toNat → R 21 j = some (pa j) ∧ (pa j = -1 ∨ (0 ≤ (pa j).toInt ∧ (pa j).toInt + esz (f1 f (pa j)) ≤ n ∧ (f1 f (pa j) = 1 → R 22 j = some (py j) ∧ 0 ≤ (py j).toInt ∧ (py j).toInt < S)))
variable {n S : Nat} {f : Nat → Int32} {cp mj : Int32} {pa py : Nat → Int32} {I I' : rI} {R R' : rR} {k t x : Int32}
theorem PK.mono (h : PK n f S cp mj pa py I R) (hI : ∀ k, k ∈ [51, 52, 53] → I' k = I k) (hR : ∀ k, k ∈ [21, 22] → R' k = R k) : PK n f S cp mj pa py I' R' := by
  obtain ⟨a1, a2, a3, a4, a5⟩ := h
  refine ⟨(hI 51 (by decide)).trans a1, (hI 52 (by decide)).trans a2, (hI 53 (by decide)).trans a3, a4, fun j h1 h2 => ?_⟩
  rw [hR 21 (by decide), hR 22 (by decide)]
  exact a5 j h1 h2
def tgf (f : Nat → Int32) (cp : Int32) (pa : Nat → Int32) (k : Int32) : Int32 := if k ≤ 0 then 0 else if cp ≤ k then 0 else if pa k.toNatClampNeg < 0 then 0 else f1 f (pa k.toNatClampNeg)
def ixf (f : Nat → Int32) (pa : Nat → Int32) (k a : Int32) : Int32 := f2 f (pa k.toNatClampNeg + a)
def pyf (py : Nat → Int32) (k : Int32) : Int32 := py k.toNatClampNeg
/-- an entry that is one -/
theorem PK.e (h : PK n f S cp mj pa py I R) (hk : 0 < k.toInt) (hc : k.toInt < cp.toInt) : R 21 (0 + k).toNatClampNeg = some (pa k.toNatClampNeg) ∧ vp_in (0 + k) 65540 ∧ (pa k.toNatClampNeg = -1 ∨ (0 ≤ (pa k.toNatClampNeg).toInt ∧ (pa k.toNatClampNeg).toInt + esz (f1 f (pa k.toNatClampNeg)) ≤ n ∧ (f1 f (pa k.toNatClampNeg) = 1 → R 22 (0 + k).toNatClampNeg = some (py k.toNatClampNeg) ∧ 0 ≤ (py k.toNatClampNeg).toInt ∧ (py k.toNatClampNeg).toInt < S))) := by
  obtain ⟨a1, a2, a3, a4, a5⟩ := h
  rw [z_nat]
  obtain ⟨b1, b2⟩ := a5 k.toNatClampNeg (by show 1 ≤ k.toInt.toNat; omega) (by show k.toInt.toNat < _; omega)
  exact ⟨b1, vin_z (by omega) (by omega), b2⟩
theorem tgf_in (h : tgf f cp pa k = t) (ht : t ≠ 0) : 0 < k.toInt ∧ k.toInt < cp.toInt ∧ 0 ≤ (pa k.toNatClampNeg).toInt ∧ f1 f (pa k.toNatClampNeg) = t := by
  unfold tgf at h
  split at h
  · exact absurd h.symm ht
  · split at h
    · exact absurd h.symm ht
    · split at h
      · exact absurd h.symm ht
      · rename_i h1 h2 h3
        have e : (0 : Int32).toInt = 0 := rfl
        have h4 := i_nle h1
        exact ⟨by omega, i_nle h2, nneg h3, h⟩
theorem m1_neg {y : Int32} (h : 0 ≤ y.toInt) (e : y = -1) : False := by
  subst e
  exact absurd h (by decide)
theorem PK.tg (h : PK n f S cp mj pa py I R) (ht : tgf f cp pa k = t) (h0 : t ≠ 0) : 0 < k.toInt ∧ k.toInt < cp.toInt ∧ 0 ≤ (pa k.toNatClampNeg).toInt ∧ f1 f (pa k.toNatClampNeg) = t ∧ (pa k.toNatClampNeg).toInt + esz t ≤ n := by
  obtain ⟨h1, h2, h3, h4⟩ := tgf_in ht h0
  obtain ⟨-, -, h5⟩ := h.e h1 h2
  obtain ⟨h6, h7, -⟩ := h5.resolve_left (m1_neg h3)
  rw [h4] at h7
  exact ⟨h1, h2, h3, h4, h7⟩
theorem PK.y (h : PK n f S cp mj pa py I R) (ht : tgf f cp pa k = 1) : R 22 (0 + k).toNatClampNeg = some (pyf py k) ∧ vp_in (0 + k) 65540 ∧ 0 ≤ (pyf py k).toInt ∧ (pyf py k).toInt < S := by
  obtain ⟨h1, h2, h3, h4⟩ := tgf_in ht (by decide)
  obtain ⟨-, h9, h5⟩ := h.e h1 h2
  obtain ⟨h6, h7, h8⟩ := h5.resolve_left (m1_neg h3)
  obtain ⟨a1, a2, a3⟩ := h8 h4
  exact ⟨a1, h9, a2, a3⟩
/-- what an entry's indexes lead to -/
def ix7 (f : Nat → Int32) (cp : Int32) (pa : Nat → Int32) (k : Int32) : Prop := tgf f cp pa (ixf f pa k 1) = 1
def ix12 (f : Nat → Int32) (cp : Int32) (pa : Nat → Int32) (k : Int32) : Prop := tgf f cp pa (ixf f pa k 1) = 1 ∧ tgf f cp pa (ixf f pa k 3) = 1
def ix9 (f : Nat → Int32) (cp : Int32) (pa : Nat → Int32) (k : Int32) : Prop := tgf f cp pa (ixf f pa k 1) = 7 ∧ ix7 f cp pa (ixf f pa k 1) ∧ tgf f cp pa (ixf f pa k 3) = 12 ∧ ix12 f cp pa (ixf f pa k 3)
def ix17 (f : Nat → Int32) (cp : Int32) (pa : Nat → Int32) (k : Int32) : Prop := tgf f cp pa (ixf f pa k 3) = 12 ∧ ix12 f cp pa (ixf f pa k 3)
def t7 (t : Int32) : Prop := t = 7 ∨ t = 8 ∨ t = 16 ∨ t = 19 ∨ t = 20
def t9 (t : Int32) : Prop := 9 ≤ t.toInt ∧ t.toInt ≤ 11
def IXP (f : Nat → Int32) (cp : Int32) (pa : Nat → Int32) (k t : Int32) : Prop := (t7 t → ix7 f cp pa k) ∧ (t = 12 → ix12 f cp pa k) ∧ (t9 t → ix9 f cp pa k) ∧ (t = 15 → t9 (tgf f cp pa (ixf f pa k 2)) → ix9 f cp pa (ixf f pa k 2)) ∧ (t = 17 ∨ t = 18 → ix17 f cp pa k)
theorem esz_7 (h : t7 t) : esz t = 3 := by
  rcases h with rfl | rfl | rfl | rfl | rfl <;> rfl
theorem esz_9 (h : t9 t) : esz t = 5 := by
  have h1 := h.1
  have h2 := h.2
  have : t.toInt = 9 ∨ t.toInt = 10 ∨ t.toInt = 11 := by omega
  rcases this with e | e | e
  · rw [i_ofInt 9 (by omega) e]; rfl
  · rw [i_ofInt 10 (by omega) e]; rfl
  · rw [i_ofInt 11 (by omega) e]; rfl
theorem t9_ne {v : Int32} (h : t9 t) (hv : ¬ t9 v) : t ≠ v := fun e => hv (e ▸ h)
/-- a text that is a method's descriptor -/
def MTX (sa sl ch : Nat → Int32) (s : Int32) : Prop := AGW (tx sa ch s) (sL sl s) 1 ∧ 3 ≤ (sL sl s).toInt
/-- an entry that holds -/
def EOK (f : Nat → Int32) (cp : Int32) (pa py sa sl ch : Nat → Int32) (k : Int32) : Prop := IXP f cp pa k (tgf f cp pa k) ∧ (tgf f cp pa k = 7 → 0 < (sL sl (pyf py (ixf f pa k 1))).toInt) ∧
  (tgf f cp pa k = 10 ∨ tgf f cp pa k = 11 ∨ tgf f cp pa k = 18 → MTX sa sl ch (pyf py (ixf f pa (ixf f pa k 3) 3))) ∧ (tgf f cp pa k = 17 → 0 < (sL sl (pyf py (ixf f pa (ixf f pa k 3) 3))).toInt)
theorem tgf_of (h0 : 0 < k.toInt) (h1 : k.toInt < cp.toInt) (h2 : 0 ≤ (pa k.toNatClampNeg).toInt) : tgf f cp pa k = f1 f (pa k.toNatClampNeg) := by
  have e : (0 : Int32).toInt = 0 := rfl
  unfold tgf
  rw [if_neg (fun q => by have := i_le q; omega), if_neg (fun q => by have := i_le q; omega), if_neg (nlt0 h2)]
theorem t79 (h7 : t7 t) (h9 : t9 t) : False := by
  rcases h7 with rfl | rfl | rfl | rfl | rfl <;> exact absurd h9 (by unfold t9; decide)
theorem t7_ne (h : t7 t) : t ≠ 0 := by
  rintro rfl
  exact absurd h (by unfold t7; decide)
theorem t9_n0 (h : t9 t) : t ≠ 0 := by
  rintro rfl
  exact absurd h (by unfold t9; decide)
theorem IXP_7 (h7 : t7 t) (h : ix7 f cp pa k) : IXP f cp pa k t := ⟨fun _ => h, fun e => absurd (e ▸ h7) (by unfold t7; decide), fun h9 => (t79 h7 h9).elim, fun e => absurd (e ▸ h7) (by unfold t7; decide), fun e => e.elim (fun e => absurd (e ▸ h7) (by unfold t7; decide)) (fun e => absurd (e ▸ h7) (by unfold t7; decide))⟩
theorem IXP_12 (e12 : t = 12) (h : ix12 f cp pa k) : IXP f cp pa k t := by
  subst e12
  exact ⟨fun e => absurd e (by unfold t7; decide), fun _ => h, fun e => absurd e (by unfold t9; decide), fun e => absurd e (by decide), fun e => absurd e (by decide)⟩
theorem IXP_9 (h9 : t9 t) (h : ix9 f cp pa k) : IXP f cp pa k t := ⟨fun e => (t79 e h9).elim, fun e => absurd (e ▸ h9) (by unfold t9; decide), fun _ => h, fun e => absurd (e ▸ h9) (by unfold t9; decide), fun e => e.elim (fun e => absurd (e ▸ h9) (by unfold t9; decide)) (fun e => absurd (e ▸ h9) (by unfold t9; decide))⟩
theorem IXP_15 (e15 : t = 15) (h : t9 (tgf f cp pa (ixf f pa k 2)) → ix9 f cp pa (ixf f pa k 2)) : IXP f cp pa k t := by
  subst e15
  exact ⟨fun e => absurd e (by unfold t7; decide), fun e => absurd e (by decide), fun e => absurd e (by unfold t9; decide), fun _ => h, fun e => absurd e (by decide)⟩
theorem IXP_17 (e17 : t = 17 ∨ t = 18) (h : ix17 f cp pa k) : IXP f cp pa k t := by
  rcases e17 with e | e
  · subst e
    exact ⟨fun e => absurd e (by unfold t7; decide), fun e => absurd e (by decide), fun e => absurd e (by unfold t9; decide), fun e => absurd e (by decide), fun _ => h⟩
  · subst e
    exact ⟨fun e => absurd e (by unfold t7; decide), fun e => absurd e (by decide), fun e => absurd e (by unfold t9; decide), fun e => absurd e (by decide), fun _ => h⟩
theorem IXP_o (a : ¬ t7 t) (b : ¬ t = 12) (c : ¬ t9 t) (d : ¬ t = 15) (e : ¬ (t = 17 ∨ t = 18)) : IXP f cp pa k t := ⟨fun h => absurd h a, fun h => absurd h b, fun h => absurd h c, fun h => absurd h d, fun h => absurd h e⟩
theorem esz_17 (h : t = 17 ∨ t = 18) : esz t = 5 := by
  rcases h with rfl | rfl <;> rfl
def EK (f : Nat → Int32) (cp : Int32) (pa py sa sl ch : Nat → Int32) : Prop := ∀ k, tgf f cp pa k ≠ 0 → EOK f cp pa py sa sl ch k
theorem ntv_0 {c : Int32 → Int32} : ntv c 0 0 = 0 := by
  show ntx c 0 2 0 (0 - 1) = 0
  exact ntx_dbl (v := 47) (by decide) rfl (by decide) rfl (by decide)
theorem t9_10 : t9 10 := by unfold t9; decide
theorem t9_11 : t9 11 := by unfold t9; decide
theorem t9_of (h : t = 9 ∨ t = 10 ∨ t = 11) : t9 t := by
  rcases h with rfl | rfl | rfl <;> (unfold t9; decide)
end MIU
