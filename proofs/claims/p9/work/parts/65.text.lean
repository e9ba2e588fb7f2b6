/-! the reference: texts (my own text) -/
section MIV
def tx (sa ch : Nat → Int32) (s k : Int32) : Int32 := ch (sa s.toNatClampNeg + k).toNatClampNeg
def sL (sl : Nat → Int32) (s : Int32) : Int32 := sl s.toNatClampNeg
theorem r_c {v : Int32} (h : ch16 v) : r_int mi_cc [.int v] = some (some (.int v)) := by
  have : mi_cc v = true := decide_eq_true h
  simp [r_int, this]
/-- a class's name -/
def ntx (c : Int32 → Int32) (to : Int32) : Nat → Int32 → Int32 → Int32
  | 0, _, _ => 1
  | m + 1, k, last => if to < k then 1 else if (if k < to then c k else 47) = 46 ∨ (if k < to then c k else 47) = 59 ∨ (if k < to then c k else 47) = 91 then 0 else if (if k < to then c k else 47) = 47 then (if k = last + 1 then 0 else ntx c to m (k + 1) k) else ntx c to m (k + 1) last
def ntf (to k : Int32) : Nat := (to.toInt + 2 - k.toInt).toNat
def ntv (c : Int32 → Int32) (a to : Int32) : Int32 := ntx c to (ntf to a) a (a - 1)
variable {c : Int32 → Int32} {to k last v n a e : Int32} {m : Nat} {p : Int32 → Bool}
theorem ntf_s (h : ¬ to < k) (h1 : (k + 1).toInt = k.toInt + 1) : ntf to k = ntf to (k + 1) + 1 := by
  have := i_nlt h
  unfold ntf
  omega
theorem ntx_end (h : to < k) : ntx c to m k last = 1 := by
  cases m with
  | zero => rfl
  | succ m => rw [ntx, if_pos h]
theorem ntx_bad (h : ¬ to < k) (hv : v = if k < to then c k else 47) (hb : v = 46 ∨ v = 59 ∨ v = 91) : ntx c to (m + 1) k last = 0 := by
  rw [ntx, if_neg h, ← hv, if_pos hb]
theorem ntx_dbl (h : ¬ to < k) (hv : v = if k < to then c k else 47) (hb : ¬ (v = 46 ∨ v = 59 ∨ v = 91)) (h47 : v = 47) (hl : k = last + 1) : ntx c to (m + 1) k last = 0 := by
  rw [ntx, if_neg h, ← hv, if_neg hb, if_pos h47, if_pos hl]
theorem ntx_sep (h : ¬ to < k) (hv : v = if k < to then c k else 47) (hb : ¬ (v = 46 ∨ v = 59 ∨ v = 91)) (h47 : v = 47) (hl : ¬ k = last + 1) : ntx c to (m + 1) k last = ntx c to m (k + 1) k := by
  rw [ntx, if_neg h, ← hv, if_neg hb, if_pos h47, if_neg hl]
theorem ntx_go (h : ¬ to < k) (hv : v = if k < to then c k else 47) (hb : ¬ (v = 46 ∨ v = 59 ∨ v = 91)) (h47 : ¬ v = 47) : ntx c to (m + 1) k last = ntx c to m (k + 1) last := by
  rw [ntx, if_neg h, ← hv, if_neg hb, if_neg h47]
theorem ntx_01 : ∀ {m : Nat} {k last : Int32}, ntx c to m k last = 0 ∨ ntx c to m k last = 1
  | 0, _, _ => Or.inr rfl
  | m + 1, k, last => by
    rw [ntx]
    generalize (if k < to then c k else 47) = v
    split
    · exact Or.inr rfl
    · split
      · exact Or.inl rfl
      · split
        · split
          · exact Or.inl rfl
          · exact ntx_01
        · exact ntx_01
/-- the first place from k on where p is no longer so -/
def scn (p : Int32 → Bool) (n : Int32) : Nat → Int32 → Int32
  | 0, k => k
  | m + 1, k => if k < n ∧ p k = true then scn p n m (k + 1) else k
def scf (n k : Int32) : Nat := (n.toInt - k.toInt).toNat
theorem scn_end (h : ¬ (k < n ∧ p k = true)) : scn p n m k = k := by
  cases m with
  | zero => rfl
  | succ m => rw [scn, if_neg h]
theorem scn_go (h : k < n) (hp : p k = true) (h1 : (k + 1).toInt = k.toInt + 1) : scn p n (scf n k) k = scn p n (scf n (k + 1)) (k + 1) := by
  have h2 := i_lt h
  rw [show scf n k = scf n (k + 1) + 1 by unfold scf; omega, scn, if_pos ⟨h, hp⟩]
theorem scn_ge : ∀ {m : Nat} {k : Int32}, 0 ≤ k.toInt → k.toInt ≤ n.toInt → n.toInt < 1073741824 → k.toInt ≤ (scn p n m k).toInt ∧ (scn p n m k).toInt ≤ n.toInt
  | 0, k, h0, h1, _ => ⟨Int.le_refl _, h1⟩
  | m + 1, k, h0, h1, h2 => by
    rw [scn]
    split
    · rename_i h
      have h3 := i_lt h.1
      have h4 : (k + 1).toInt = k.toInt + 1 := inc_lt h.1
      have := scn_ge (m := m) (k := k + 1) (by omega) (by omega) h2
      omega
    · exact ⟨Int.le_refl _, h1⟩
def PL1 (c : Int32 → Int32) : Int32 → Bool := fun j => decide (c j = 91)
def PL2 (c : Int32 → Int32) : Int32 → Bool := fun j => decide (¬ c j = 59)
def ftB (c : Int32 → Int32) (n k e : Int32) : Int32 := if e < n ∧ ntv c (k + 1) e = 1 then e + 1 else -1
def prim (v : Int32) : Prop := v = 66 ∨ v = 67 ∨ v = 68 ∨ v = 70 ∨ v = 73 ∨ v = 74 ∨ v = 83 ∨ v = 90
def ftA (c : Int32 → Int32) (n a k : Int32) : Int32 := if 255 < k - a ∨ n ≤ k then -1 else if c k = 66 ∨ c k = 67 ∨ c k = 68 ∨ c k = 70 ∨ c k = 73 ∨ c k = 74 ∨ c k = 83 ∨ c k = 90 then k + 1 else if c k = 76 then ftB c n k (scn (PL2 c) n (scf n (k + 1)) (k + 1)) else -1
def FTx (c : Int32 → Int32) (n a : Int32) : Int32 := ftA c n a (scn (PL1 c) n (scf n a) a)
theorem ft_1 (h : scn (PL1 c) n (scf n a) a = k) (hb : 255 < k - a ∨ n ≤ k) : -1 = FTx c n a := by
  rw [FTx, h, ftA, if_pos hb]
theorem ft_p (h : scn (PL1 c) n (scf n a) a = k) (hb : ¬ (255 < k - a ∨ n ≤ k)) (hp : prim (c k)) : k + 1 = FTx c n a := by
  unfold prim at hp
  rw [FTx, h, ftA, if_neg hb, if_pos hp]
theorem ft_n (h : scn (PL1 c) n (scf n a) a = k) (hb : ¬ (255 < k - a ∨ n ≤ k)) (hp : ¬ prim (c k)) (hL : ¬ c k = 76) : -1 = FTx c n a := by
  unfold prim at hp
  rw [FTx, h, ftA, if_neg hb, if_neg hp, if_neg hL]
theorem ft_b (h : scn (PL1 c) n (scf n a) a = k) (hb : ¬ (255 < k - a ∨ n ≤ k)) (hp : ¬ prim (c k)) (hL : c k = 76) (h2 : scn (PL2 c) n (scf n (k + 1)) (k + 1) = e) : FTx c n a = ftB c n k e := by
  unfold prim at hp
  rw [FTx, h, ftA, if_neg hb, if_neg hp, if_pos hL, h2]
theorem FTx_b (h0 : 0 ≤ a.toInt) (h1 : a.toInt ≤ n.toInt) (h2 : n.toInt < 1073741824) : FTx c n a = -1 ∨ (a.toInt < (FTx c n a).toInt ∧ (FTx c n a).toInt ≤ n.toInt) := by
  have h3 := scn_ge (p := PL1 c) (m := scf n a) h0 h1 h2
  unfold FTx
  generalize scn (PL1 c) n (scf n a) a = k at h3
  unfold ftA
  split
  · exact Or.inl rfl
  · rename_i hb
    have hk : k < n := Int32.not_le.mp (fun q => hb (Or.inr q))
    have hk1 := i_lt hk
    have hk2 : (k + 1).toInt = k.toInt + 1 := inc_lt hk
    split
    · exact Or.inr ⟨by omega, by omega⟩
    · split
      · have h4 := scn_ge (p := PL2 c) (m := scf n (k + 1)) (k := k + 1) (by omega) (by omega) h2
        generalize scn (PL2 c) n (scf n (k + 1)) (k + 1) = e at h4
        unfold ftB
        split
        · rename_i h5
          have h6 : (e + 1).toInt = e.toInt + 1 := inc_lt h5.1
          have h7 := i_lt h5.1
          exact Or.inr ⟨by omega, by omega⟩
        · exact Or.inl rfl
      · exact Or.inl rfl
/-- arguments, one behind another, up to the ')' -/
def AG1 (c : Int32 → Int32) (n a b : Int32) : Prop := 0 ≤ a.toInt ∧ a.toInt < n.toInt ∧ ¬ c a = 41 ∧ b = FTx c n a ∧ a.toInt < b.toInt ∧ b.toInt ≤ n.toInt
def AGW (c : Int32 → Int32) (n a : Int32) : Prop := ∃ m b, itr (AG1 c n) m a b ∧ 0 ≤ b.toInt ∧ b.toInt < n.toInt ∧ c b = 41
theorem AGW.at (h : AGW c n a) : 0 ≤ a.toInt ∧ a.toInt < n.toInt := by
  obtain ⟨m, b, h1, h2, h3, h4⟩ := h
  cases m with
  | zero => cases h1; exact ⟨h2, h3⟩
  | succ m =>
    obtain ⟨c1, h5, h6⟩ := h1.front
    exact ⟨h5.1, h5.2.1⟩
theorem AGW.next (h : AGW c n a) (ha : ¬ c a = 41) : a.toInt < (FTx c n a).toInt ∧ AGW c n (FTx c n a) := by
  obtain ⟨m, b, h1, h2, h3, h4⟩ := h
  cases m with
  | zero => cases h1; exact absurd h4 ha
  | succ m =>
    obtain ⟨c1, h5, h6⟩ := h1.front
    obtain ⟨d1, d2, d3, d4, d5, d6⟩ := h5
    subst d4
    exact ⟨d5, m, b, h6, h2, h3, h4⟩
end MIV
