/-! the reference: the same file is judged alike (my own text) -/
section MIB2
variable {g : xe_G} {m0 : Nat} {q : Nat → Nat} {z : Nat × Nat} {I I' : rI} {R R' : rR} {M : mi_H} {kr : rR} {Ic : rI} {Rc : rR} {f : Nat → Int32} {n : Nat}
theorem rm_clearC (hR : RS g m0 q z I R M) (hcan : CAN g m0 q kr Ic Rc) (h49 : I 49 = some 0) (h63 : R 63 = kr 63) (h64 : R 64 = kr 64) {d : Nat} (hd : 3 ≤ d) : mt (mT g) d 195 [.ref m0] M (fun v M' => v = none ∧ ∃ (I' : rI) (R' : rR), RS g m0 q z I' R' M' ∧ eqI [3, 8, 9, 10, 11, 20, 25, 26] I I' ∧ eqR [1, 2, 4, 5, 6, 7] R R' ∧ (CLF I' R' ∧ leI Ic I' ∧ leR Rc R')) := by
  obtain ⟨-, -, -, -, Mc, hRc, hmc⟩ := hcan
  have hl : hle (cH g m0 q Iu (Ru kr)) M := cH_le hR (fun k v _ hv => by
    unfold Iu at hv
    by_cases e : k = 49
    · rw [if_pos e] at hv
      cases hv
      rw [e]
      exact h49
    · rw [if_neg e] at hv
      cases hv) (fun k t i v _ hv => by
    unfold Ru at hv
    by_cases e : k = 63 ∨ k = 64
    · rw [if_pos e] at hv
      rcases e with e | e
      · rw [e] at hv ⊢
        rw [h63]
        exact hv
      · rw [e] at hv ⊢
        rw [h64]
        exact hv
    · rw [if_neg e] at hv
      cases hv)
  obtain ⟨r, hr, ⟨hv, I1, R1, a1, a2, a3, a4⟩, -, M0, ⟨-, hM0⟩, hle0⟩ := mt.more (mz_all (g := g)) (y := 195) (by decide) hmc (rm_clear hR hd) hl
  rw [hM0] at hle0
  have h5 := le_of hRc a1 hle0
  exact ⟨r, hr, hv, I1, R1, a1, a2, a3, a4, h5.1, h5.2⟩
theorem rm_checkFileC {si sc so : Int32} {S cN : Nat} {x0 : Int32} (hR : RS g m0 q z I R M) (hk20 : I 20 = some 0) (hk25 : I 25 = some 0) (hk26 : I 26 = some 0) (hk9 : I 9 = some si) (hk10 : I 10 = some sc) (hk11 : I 11 = some so) (hF : FK n f I R) (hZ : SYM S cN I R) (hK : KW I R) (hS3 : S ≤ 3) (hC3 : cN ≤ 30) (hx : CANX g m0 q Ic Rc f n x0) (hli : leI (Ifn n Ic) I) (hlr : leR (Rfn f n Rc) R) {d : Nat} (hd : 9 ≤ d) : mt (mT g) d 190 [.ref m0] M (fun v M' => ∃ (x : Int32) (I' : rI) (R' : rR), v = some (.int x) ∧ RS g m0 q z I' R' M' ∧ eqI [3, 8, 20, 25, 26, 47, 48, 50, 51, 52, 53, 54, 55, 56, 57, 58, 59, 60, 61, 65, 66, 67, 68, 69, 70, 71, 72] I I' ∧ eqR [1, 2, 4, 5, 6, 7, 21, 22, 27, 28, 29, 30, 31, 32, 33, 34, 35, 36, 37, 38, 39, 40, 41, 42, 43, 44, 45, 46] R R' ∧ (x = 0 ∨ x = 1) ∧ (x = x0 ∧ (x = 0 ∨ GD n f I' R'))) := by
  obtain ⟨r, hr, ⟨x, I1, R1, a1, a2, a3, a4, a5, a6⟩, -, M0, hv0, -⟩ := mt.more (mz_all (g := g)) (y := 190) (by decide) hx (rm_checkFile hR hk20 hk25 hk26 hk9 hk10 hk11 hF hZ hK hS3 hC3 hd) (cH_le hR hli hlr)
  have e : x = x0 := by
    have e2 : some (Value.int x) = some (Value.int x0) := a1.symm.trans hv0
    cases e2
    rfl
  exact ⟨r, hr, x, I1, R1, a1, a2, a3, a4, a5, e, a6⟩
theorem le_fn {I1 : rI} (h : leI Ic I1) (h16 : I 16 = some (nI n)) (he : ∀ k, k ≠ 16 → I k = I1 k) : leI (Ifn n Ic) I := by
  intro k v hx hv
  unfold Ifn at hv
  by_cases e : k = 16
  · rw [if_pos e] at hv
    rw [e, h16]
    exact hv
  · rw [if_neg e] at hv
    rw [he k e]
    exact h k v hx hv
theorem le_rfn {R1 : rR} (h : leR Rc R1) (h12 : ∀ i, i < n → R 12 i = some (f i)) (he : ∀ k, k ≠ 12 → R k = R1 k) : leR (Rfn f n Rc) R := by
  intro k t i v ht hv
  unfold Rfn at hv
  by_cases e : k = 12
  · rw [if_pos e] at hv
    by_cases e2 : i < n
    · rw [if_pos e2] at hv
      rw [e, h12 i e2]
      exact hv
    · rw [if_neg e2] at hv
      cases hv
  · rw [if_neg e] at hv
    rw [he k e]
    exact h k t i v ht hv
theorem fill {k b : Int32} (h : ∀ i, i < k.toInt.toNat → R 12 i = some (f i)) (e : R' 12 k.toNatClampNeg = some (vp_nar .byte b)) (hb : vp_nar .byte b = f k.toNatClampNeg) (h2 : ∀ b, b ≠ k.toNatClampNeg → R' 12 b = R 12 b) : ∀ i, i < k.toInt.toNat + 1 → R' 12 i = some (f i) := by
  intro i hi
  by_cases e2 : i = k.toNatClampNeg
  · rw [e2, e, hb]
  · rw [h2 i e2]
    have : k.toNatClampNeg = k.toInt.toNat := rfl
    exact h i (by omega)
end MIB2
