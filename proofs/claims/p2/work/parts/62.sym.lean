/-! symbols, what is left of them (my own text) -/
section MIS2
def SYM (S cN : Nat) (I : rI) (R : rR) : Prop := ∃ sa sl ch he nx, SK S cN sa sl ch I R ∧ HK S he nx I R
variable {S cN m : Nat} {cu : Nat → Int32} {I I' : rI} {R R' : rR} {x y : Int32}
theorem SYM.mono (h : SYM S cN I R) (hI : ∀ k, k ∈ [3, 8] → I' k = I k) (hR : ∀ k, k ∈ [1, 4, 5, 6, 7] → R' k = R k) : SYM S cN I' R' := by
  obtain ⟨sa, sl, ch, he, nx, h1, h2⟩ := h
  exact ⟨sa, sl, ch, he, nx, h1.mono hI (fun k hk => hR k (by simp only [List.mem_cons, List.not_mem_nil, or_false] at hk ⊢; omega)), h2.mono (fun k hk => by cases hk) (fun k hk => hR k (by simp only [List.mem_cons, List.not_mem_nil, or_false] at hk ⊢; omega))⟩
def SZ (S cN m : Nat) (x : Int32) (I' : rI) (R' : rR) : Prop := ∃ S' cN' : Nat, SYM S' cN' I' R' ∧ 0 ≤ x.toInt ∧ x.toInt < S' ∧ S ≤ S' ∧ S' ≤ S + 1 ∧ cN ≤ cN' ∧ cN' ≤ cN + m
theorem rz_symbol {g : xe_G} {m0 : Nat} {q : Nat → Nat} {z : Nat × Nat} {M : mi_H} {x1 : Int32} (hR : RS g m0 q z I R M) (hZ : SYM S cN I R) (hU : CU m cu I R) (hm : x1.toInt = m) (hroom : cN + m ≤ 66000) (hS : S < 24000) {d : Nat} (hd : 1 ≤ d) : mt (mT g) d 245 [.ref m0, .int x1] M (fun v M' => ∃ (x : Int32) (I' : rI) (R' : rR), v = some (.int x) ∧ RS g m0 q z I' R' M' ∧ eqI [3, 8] I I' ∧ eqR [1, 4, 5, 6, 7] R R' ∧ SZ S cN m x I' R') := by
  obtain ⟨sa, sl, ch, he, nx, h1, h2⟩ := hZ
  refine (rm_symbol hR h1 h2 hU hm hroom hS hd).mono (fun v M' h => ?_)
  obtain ⟨x, I', R', e, a1, a2, a3, S', cN', sa', sl', ch', he', nx', b1, b2, b3, b4, b5, b6, b7, b8, -⟩ := h
  exact ⟨x, I', R', e, a1, a2, a3, S', cN', ⟨sa', sl', ch', he', nx', b1, b2⟩, b3, b4, b5, b6, b7, b8⟩
theorem ch16_vn (y : Int32) : ch16 (vp_nar .char y) := by
  show narrow .char (.int (vp_nar .char y)) = .int (vp_nar .char y)
  have h : vp_nar .char y = y.toUInt32.toUInt16.toUInt32.toInt32 := rfl
  rw [h]
  show Value.int (y.toUInt32.toUInt16.toUInt32.toInt32.toUInt32.toUInt16.toUInt32.toInt32) = _
  congr 2
  simp
  apply UInt32.toNat_inj.mp
  simp [UInt32.toNat_mod]
/-- so many places of the row of characters are known -/
def CUe (m : Nat) (R : rR) : Prop := ∀ j, j < m → ∃ c, R 2 j = some c ∧ ch16 c
theorem CUe.known (h : CUe m R) : CU m (fun j => (R 2 j).getD 0) I R := by
  intro i hi
  obtain ⟨c, h1, h2⟩ := h i hi
  simp only [h1, Option.getD_some]
  exact ⟨trivial, h2⟩
theorem CUe.put {k : Int32} (h : CUe k.toInt.toNat R) (h0 : 0 ≤ k.toInt) {v : Int32} (e : R' 2 k.toNatClampNeg = some v) (hv : ch16 v) (g : ∀ b, b ≠ k.toNatClampNeg → R' 2 b = R 2 b) (hk : (k + 1).toInt = k.toInt + 1) : CUe (k + 1).toInt.toNat R' := by
  intro j hj
  have ek : k.toNatClampNeg = k.toInt.toNat := rfl
  by_cases c : j = k.toNatClampNeg
  · subst c
    exact ⟨v, e, hv⟩
  · rw [g j c]
    exact h j (by omega)
/-- an entry's bytes -/
def esz (t : Int32) : Int := if t = 15 then 4 else if t = 1 ∨ t = 7 ∨ t = 8 ∨ t = 16 ∨ t = 19 ∨ t = 20 then 3 else if t = 5 ∨ t = 6 then 9 else 5
def ENT (f : Nat → Int32) (n S : Nat) (R : rR) (j : Nat) (a : Int32) : Prop := 0 ≤ a.toInt ∧ a.toInt + esz (f1 f a) ≤ n ∧ (f1 f a = 1 → ∃ sy, R 22 j = some sy ∧ 0 ≤ sy.toInt ∧ sy.toInt < S)
def PEN (f : Nat → Int32) (n S k : Nat) (R : rR) : Prop := R 21 0 = some (-1) ∧ ∀ j, 1 ≤ j → j < k → ∃ a, R 21 j = some a ∧ (a = -1 ∨ ENT f n S R j a)
theorem PEN.mono {f : Nat → Int32} {n k S' : Nat} (h : PEN f n S k R) (h1 : R' 21 = R 21) (h2 : ∀ j, j < k → R' 22 j = R 22 j) (hS : S ≤ S') : PEN f n S' k R' := by
  refine ⟨by rw [h1]; exact h.1, fun j hj hk => ?_⟩
  obtain ⟨a, b1, b2⟩ := h.2 j hj hk
  refine ⟨a, by rw [h1]; exact b1, b2.imp id (fun ⟨c1, c2, c3⟩ => ⟨c1, c2, fun e => ?_⟩)⟩
  obtain ⟨sy, e1, e2, e3⟩ := c3 e
  exact ⟨sy, by rw [h2 j hk]; exact e1, e2, by omega⟩
end MIS2
