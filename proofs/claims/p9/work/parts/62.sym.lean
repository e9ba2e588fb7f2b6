/-! symbols, what is left of them (my own text) -/
section MIS2
def SYM (S cN : Nat) (I : rI) (R : rR) : Prop := ∃ sa sl ch he nx, SK S cN sa sl ch I R ∧ HK S he nx I R
variable {S cN m : Nat} {cu : Nat → Int32} {I I' : rI} {R R' : rR} {x y : Int32}
theorem SYM.mono (h : SYM S cN I R) (hI : ∀ k, k ∈ [3, 8] → I' k = I k) (hR : ∀ k, k ∈ [1, 4, 5, 6, 7] → R' k = R k) : SYM S cN I' R' := by
  obtain ⟨sa, sl, ch, he, nx, h1, h2⟩ := h
  exact ⟨sa, sl, ch, he, nx, h1.mono hI (fun k hk => hR k (by simp only [List.mem_cons, List.not_mem_nil, or_false] at hk ⊢; omega)), h2.mono (fun k hk => by cases hk) (fun k hk => hR k (by simp only [List.mem_cons, List.not_mem_nil, or_false] at hk ⊢; omega))⟩
def SZ (S cN m : Nat) (x : Int32) (I' : rI) (R' : rR) : Prop := ∃ S' cN' : Nat, SYM S' cN' I' R' ∧ 0 ≤ x.toInt ∧ x.toInt < S' ∧ S ≤ S' ∧ S' ≤ S + 1 ∧ cN ≤ cN' ∧ cN' ≤ cN + m
theorem rz_symbol {g : xe_G} {m0 : Nat} {q : Nat → Nat} {z : Nat × Nat} {M : mi_H} {x1 : Int32} (hR : RS g m0 q z I R M) (hZ : SYM S cN I R) (hU : CU m cu I R) (hm : x1.toInt = m) (hroom : cN + m ≤ 66000) (hS : S < 24000) {d : Nat} (hd : 1 ≤ d) : mt (mT g) d 245 [.ref m0, .int x1] M (fun v M' => ∃ (x : Int32) (I' : rI) (R' : rR), v = some (.int x) ∧ RS g m0 q z I' R' M' ∧ eqI [3, 8] I I' ∧ eqR [1, 4, 5, 6, 7] R R' ∧ SZ S cN m x I' R') := by
  obtain ⟨sa, sl, ch, he, nx, h1, h2⟩ := hZ
  refine (rm_symbol hR h1 h2 hU hm hroom hS hd).mono (fun v M' h => ?_)
  obtain ⟨x, I', R', e, a1, a2, a3, S', cN', sa', sl', ch', he', nx', b1, b2, b3, b4, b5, b6, b7, b8, -⟩ := h
  exact ⟨x, I', R', e, a1, a2, a3, S', cN', ⟨sa', sl', ch', he', nx', b1, b2⟩, b3, b4, b5, b6, b7, b8⟩
theorem ch16_vn (y : Int32) : ch16 (vp_nar .char y) := by
  show narrow .char (.int (vp_nar .char y)) = .int (vp_nar .char y)
  have h : vp_nar .char y = y.toUInt32.toUInt16.toUInt32.toInt32 := rfl
  rw [h]
  show Value.int (y.toUInt32.toUInt16.toUInt32.toInt32.toUInt32.toUInt16.toUInt32.toInt32) = _
  congr 2
  simp
  apply UInt32.toNat_inj.mp
  simp [UInt32.toNat_mod]
/-- so many places of the row of characters are known -/
def CUe (m : Nat) (R : rR) : Prop := ∀ j, j < m → ∃ c, R 2 j = some c ∧ ch16 c
theorem CUe.known (h : CUe m R) : CU m (fun j => (R 2 j).getD 0) I R := by
  intro i hi
  obtain ⟨c, h1, h2⟩ := h i hi
  simp only [h1, Option.getD_some]
  exact ⟨trivial, h2⟩
theorem CUe.put {k : Int32} (h : CUe k.toInt.toNat R) (h0 : 0 ≤ k.toInt) {v : Int32} (e : R' 2 k.toNatClampNeg = some v) (hv : ch16 v) (g : ∀ b, b ≠ k.toNatClampNeg → R' 2 b = R 2 b) (hk : (k + 1).toInt = k.toInt + 1) : CUe (k + 1).toInt.toNat R' := by
  intro j hj
  have ek : k.toNatClampNeg = k.toInt.toNat := rfl
  by_cases c : j = k.toNatClampNeg
  · subst c
    exact ⟨v, e, hv⟩
  · rw [g j c]
    exact h j (by omega)
/-- an entry's bytes -/
def esz (t : Int32) : Int := if t = 15 then 4 else if t = 1 ∨ t = 7 ∨ t = 8 ∨ t = 16 ∨ t = 19 ∨ t = 20 then 3 else if t = 5 ∨ t = 6 then 9 else 5
def ENT (f : Nat → Int32) (n S : Nat) (R : rR) (j : Nat) (a : Int32) : Prop := 0 ≤ a.toInt ∧ a.toInt + esz (f1 f a) ≤ n ∧ (f1 f a = 1 → ∃ sy, R 22 j = some sy ∧ 0 ≤ sy.toInt ∧ sy.toInt < S)
def PEN (f : Nat → Int32) (n S k : Nat) (R : rR) : Prop := R 21 0 = some (-1) ∧ ∀ j, 1 ≤ j → j < k → ∃ a, R 21 j = some a ∧ (a = -1 ∨ ENT f n S R j a)
theorem PEN.mono {f : Nat → Int32} {n k S' : Nat} (h : PEN f n S k R) (h1 : R' 21 = R 21) (h2 : ∀ j, j < k → R' 22 j = R 22 j) (hS : S ≤ S') : PEN f n S' k R' := by
  refine ⟨by rw [h1]; exact h.1, fun j hj hk => ?_⟩
  obtain ⟨a, b1, b2⟩ := h.2 j hj hk
  refine ⟨a, by rw [h1]; exact b1, b2.imp id (fun ⟨c1, c2, c3⟩ => ⟨c1, c2, fun e => ?_⟩)⟩
  obtain ⟨sy, e1, e2, e3⟩ := c3 e
  exact ⟨sy, by rw [h2 j hk]; exact e1, e2, by omega⟩
end MIS2
section MIS3
variable {S S' n k : Nat} {f : Nat → Int32} {R R' : rR} {x pp : Int32}
def GT (t : Int32) : Prop := t = 1 ∨ (3 ≤ t.toInt ∧ t.toInt ≤ 12) ∨ t = 15 ∨ t = 16 ∨ t = 17 ∨ t = 18 ∨ t = 19 ∨ t = 20
theorem vin_z {x : Int32} {m : Nat} (h0 : 0 ≤ x.toInt) (h1 : x.toInt < m) : vp_in (0 + x) m := by
  rw [z_add]
  exact vin_lt h0 h1
theorem z_nat {x : Int32} : (0 + x).toNatClampNeg = x.toNatClampNeg := by rw [z_add]
theorem PEN.step (h : PEN f n S k R) (hS : S ≤ S') (h1 : R' 21 k = some pp) (h1' : ∀ b, b ≠ k → R' 21 b = R 21 b) (h2 : ∀ b, b ≠ k → R' 22 b = R 22 b) (he : ENT f n S' R' k pp) (hk : 1 ≤ k) : PEN f n S' (k + 1) R' := by
  refine ⟨by rw [h1' 0 (by omega)]; exact h.1, fun j hj hk' => ?_⟩
  by_cases e : j = k
  · subst e
    exact ⟨pp, h1, Or.inr he⟩
  · obtain ⟨a, b1, b2⟩ := h.2 j hj (by omega)
    refine ⟨a, by rw [h1' j e]; exact b1, b2.imp id (fun ⟨c1, c2, c3⟩ => ⟨c1, c2, fun e1 => ?_⟩)⟩
    obtain ⟨sy, e1, e2, e3⟩ := c3 e1
    exact ⟨sy, by rw [h2 j e]; exact e1, e2, by omega⟩
theorem PEN.wide (h : PEN f n S k R) (h1 : R' 21 k = some (-1)) (h1' : ∀ b, b ≠ k → R' 21 b = R 21 b) (h2 : R' 22 = R 22) (hk : 1 ≤ k) : PEN f n S (k + 1) R' := by
  refine ⟨by rw [h1' 0 (by omega)]; exact h.1, fun j hj hk' => ?_⟩
  by_cases e : j = k
  · subst e
    exact ⟨-1, h1, Or.inl rfl⟩
  · obtain ⟨a, b1, b2⟩ := h.2 j hj (by omega)
    refine ⟨a, by rw [h1' j e]; exact b1, b2.imp id (fun ⟨c1, c2, c3⟩ => ⟨c1, c2, fun e1 => ?_⟩)⟩
    rw [h2]
    exact c3 e1
theorem esz5 {t : Int32} : t = 3 ∨ t = 4 → esz t = 5 := by
  rintro (rfl | rfl) <;> rfl
theorem esz9 {t : Int32} : t = 5 ∨ t = 6 → esz t = 9 := by
  rintro (rfl | rfl) <;> rfl
theorem esz_le5 {t : Int32} (h : ¬ (t = 5 ∨ t = 6)) : esz t ≤ 5 := by
  unfold esz
  split
  · omega
  · split
    · omega
    · first | omega | (rw [if_neg h]; omega)
theorem i_ofInt {t : Int32} (k : Nat) (hk : k < 100) (h : t.toInt = k) : t = nI k := by
  apply Int32.toInt_inj.mp
  rw [nI_val (by omega)]
  exact h
theorem esz3 {t : Int32} (hg : GT t) (h9 : t < 9 ∨ 12 < t) (h15 : t ≠ 15) (h17 : t ≠ 17) (h18 : t ≠ 18) (h34 : t ≠ 3 ∧ t ≠ 4) (h56 : t ≠ 5 ∧ t ≠ 6) : esz t ≤ 3 := by
  have key : t = 1 ∨ t = 7 ∨ t = 8 ∨ t = 16 ∨ t = 19 ∨ t = 20 := by
    rcases hg with h | ⟨h1, h2⟩ | h | h | h | h | h | h
    · exact Or.inl h
    · rcases h9 with h9 | h9
      · have h10 : t.toInt < 9 := i_lt h9
        have : t.toInt = 3 ∨ t.toInt = 4 ∨ t.toInt = 5 ∨ t.toInt = 6 ∨ t.toInt = 7 ∨ t.toInt = 8 := by omega
        rcases this with e | e | e | e | e | e
        · exact absurd (i_ofInt 3 (by omega) e) h34.1
        · exact absurd (i_ofInt 4 (by omega) e) h34.2
        · exact absurd (i_ofInt 5 (by omega) e) h56.1
        · exact absurd (i_ofInt 6 (by omega) e) h56.2
        · exact Or.inr (Or.inl (i_ofInt 7 (by omega) e))
        · exact Or.inr (Or.inr (Or.inl (i_ofInt 8 (by omega) e)))
      · have : (12 : Int32).toInt < t.toInt := i_lt h9
        have e12 : (12 : Int32).toInt = 12 := rfl
        omega
    · exact absurd h h15
    · exact Or.inr (Or.inr (Or.inr (Or.inl h)))
    · exact absurd h h17
    · exact absurd h h18
    · exact Or.inr (Or.inr (Or.inr (Or.inr (Or.inl h))))
    · exact Or.inr (Or.inr (Or.inr (Or.inr (Or.inr h))))
  unfold esz
  rw [if_neg h15, if_pos key]
  omega
end MIS3
