/-! the reference: reading (my own text) -/
section MIB3
theorem cle.rf {c : mi_C} : cle c c := by
  cases c with
  | inl a => exact ⟨rfl, rfl, fun _ _ h => h⟩
  | inr a => exact ⟨rfl, fun _ _ h => h⟩
theorem hle.rf {M : mi_H} : hle M M := fun _ c h => ⟨c, h, cle.rf⟩
theorem mt_kp {g : xe_G} {d y : Nat} {a : List Value} {M : mi_H} {Q : Option Value → mi_H → Prop} (hy : y ∈ mS) (h : mt (mT g) d y a M Q) : mt (mT g) d y a M (fun v M' => Q v M' ∧ hkp M M') := by
  obtain ⟨r, hr, h1, h2, -⟩ := mt.more (mz_all (g := g)) hy h h hle.rf
  exact ⟨r, hr, h1, h2⟩
def fFr (R : rR) (k : Nat) : Nat → Int32 := fun i => vp_nar .byte ((R k i).getD 0)
theorem fFr_of {R : rR} {k i : Nat} {b : Int32} (h : R k i = some b) : vp_nar .byte b = fFr R k i := by
  unfold fFr
  rw [h]
  rfl
theorem nar_nar (x : Int32) : vp_nar .byte (vp_nar .byte x) = vp_nar .byte x := by
  show (x.toInt8.toInt32).toInt8.toInt32 = x.toInt8.toInt32
  simp
def KEP (g : xe_G) (m0 : Nat) (q : Nat → Nat) (Ic : rI) (Rc : rR) (n : Nat) (f : Nat → Int32) (kn : Int32) (R : rR) : Prop := kn = nI n ∧ n ≤ 65540 ∧ (∀ i, i < n → R 14 i = some (f i) ∧ vp_nar .byte (f i) = f i) ∧ CANX g m0 q Ic Rc f n 1
theorem fill14 {R R' : rR} {f : Nat → Int32} {k b : Int32} (h : ∀ i, i < k.toInt.toNat → R 14 i = some (f i)) (e : R' 14 k.toNatClampNeg = some (vp_nar .byte b)) (hb : vp_nar .byte b = f k.toNatClampNeg) (h2 : ∀ b, b ≠ k.toNatClampNeg → R' 14 b = R 14 b) : ∀ i, i < k.toInt.toNat + 1 → R' 14 i = some (f i) := by
  intro i hi
  by_cases e2 : i = k.toNatClampNeg
  · rw [e2, e, hb]
  · rw [h2 i e2]
    have : k.toNatClampNeg = k.toInt.toNat := rfl
    exact h i (by omega)
end MIB3
