/-! the reference: attributes (my own text) -/
section MIO
def BS1 (f : Nat → Int32) (n : Nat) (a b : Int32) : Prop := 0 ≤ a.toInt ∧ a.toInt + 4 ≤ n ∧ a.toInt + 4 + 2 * (f2 f (a + 2)).toInt ≤ n ∧ b.toInt = a.toInt + 4 + 2 * (f2 f (a + 2)).toInt
def BSW (f : Nat → Int32) (n : Nat) (b c : Int32) : Prop := 0 ≤ b.toInt ∧ b.toInt + 2 ≤ n ∧ ∃ e, itr (BS1 f n) c.toInt.toNat (b + 2) e ∧ e.toInt ≤ n
def CM1 (f : Nat → Int32) (n : Nat) (a b : Int32) : Prop := 0 ≤ a.toInt ∧ a.toInt + 6 ≤ n ∧ itr (RA1 f n) (f2 f (a + 4)).toInt.toNat (a + 6) b
variable {f : Nat → Int32} {n : Nat} {a b k c N : Int32} {P : Int32 → Int32 → Prop}
theorem bs_of (hn : n ≤ 65540) (h0 : 0 ≤ a.toInt) (h1 : a.toInt + 4 ≤ n) : (a + (4 + 2 * f2 f (a + 2))).toInt = a.toInt + 4 + 2 * (f2 f (a + 2)).toInt ∧ (a + 4 + 2 * f2 f (a + 2)).toInt = a.toInt + 4 + 2 * (f2 f (a + 2)).toInt := by
  have hp := f2_pos (f := f) (x := a + 2)
  have hl := f2_le (f := f) (x := a + 2)
  have e2 : (2 : Int32).toInt = 2 := rfl
  have e4 : (4 : Int32).toInt = 4 := rfl
  have d2 : (2 * f2 f (a + 2)).toInt = 2 * (f2 f (a + 2)).toInt := by rw [i_mul (by rw [e2]; omega) (by rw [e2]; omega), e2]
  have d3 : (4 + 2 * f2 f (a + 2)).toInt = 4 + 2 * (f2 f (a + 2)).toInt := by rw [i_add (by omega) (by omega), d2, e4]
  have d4 : (a + 4).toInt = a.toInt + 4 := by rw [i_add (by omega) (by omega), e4]
  exact ⟨by rw [i_add (by omega) (by omega), d3]; omega, by rw [i_add (by omega) (by omega), d4, d2]⟩
theorem ra_of (hn : n ≤ 65540) (h0 : 0 ≤ a.toInt) (h1 : a.toInt + 6 + (f4 f (a + 2)).toInt ≤ n) : (a + (6 + Int64.toInt32 (f4 f (a + 2)))).toInt = a.toInt + 6 + (f4 f (a + 2)).toInt := by
  have hp := f4_pos (f := f) (x := a + 2)
  have e6 : (6 : Int32).toInt = 6 := rfl
  have di : (Int64.toInt32 (f4 f (a + 2))).toInt = (f4 f (a + 2)).toInt := i_of (by omega) (by omega)
  have d3 : (6 + Int64.toInt32 (f4 f (a + 2))).toInt = 6 + (f4 f (a + 2)).toInt := by rw [i_add (by omega) (by omega), di, e6]
  rw [i_add (by omega) (by omega), d3]
  omega
theorem itr_next {e : Int32} (h : itr P (N.toInt - k.toInt).toNat a e) (hk : ¬ N ≤ k) : ∃ c, P a c ∧ itr P (N.toInt - (k + 1).toInt).toNat c e := by
  have h1 := i_nle hk
  have h2 := inc_lt (Int32.not_le.mp hk)
  rw [show (N.toInt - k.toInt).toNat = (N.toInt - (k + 1).toInt).toNat + 1 by omega] at h
  exact h.front
theorem RA1.eq {b' : Int32} (h : RA1 f n a b) (h' : b'.toInt = a.toInt + 6 + (f4 f (a + 2)).toInt) : b = b' := Int32.toInt_inj.mp (h.2.2.2.trans h'.symm)
theorem BS1.eq {b' : Int32} (h : BS1 f n a b) (h' : b'.toInt = a.toInt + 4 + 2 * (f2 f (a + 2)).toInt) : b = b' := Int32.toInt_inj.mp (h.2.2.2.trans h'.symm)
theorem itr_one {m : Nat} {e : Int32} (h : itr P m a e) (hm : m = 0) : e = a := by
  subst hm
  exact h
theorem two_k {k : Int32} (h0 : 0 ≤ k.toInt) (h1 : k.toInt ≤ 1000000) : (2 * k).toInt = 2 * k.toInt := by
  have e2 : (2 : Int32).toInt = 2 := rfl
  rw [i_mul (by rw [e2]; omega) (by rw [e2]; omega), e2]
theorem eight_k {k : Int32} (h0 : 0 ≤ k.toInt) (h1 : k.toInt ≤ 1000000) : (8 * k).toInt = 8 * k.toInt := by
  have e8 : (8 : Int32).toInt = 8 := rfl
  rw [i_mul (by rw [e8]; omega) (by rw [e8]; omega), e8]
/-- rows are written at one place alone -/
def pw (o : Nat) (R R' : rR) : Prop := ∀ k b, b ≠ o → R' k b = R k b
theorem pw.rf {o : Nat} {R : rR} : pw o R R := fun _ _ _ => rfl
theorem pw.tr {o : Nat} {R R1 R2 : rR} (h : pw o R R1) (h' : pw o R1 R2) : pw o R R2 := fun k b hb => (h' k b hb).trans (h k b hb)
theorem pw.eq {o : Nat} {R R1 R2 : rR} (h : pw o R R1) (h' : eqR [] R1 R2) : pw o R R2 := fun k b hb => (congrFun (h' k (by simp)) b).trans (h k b hb)
theorem pw.st {o j : Nat} {R R1 R2 : rR} {k : Nat} (h : pw o R R1) (g : ∀ b, b ≠ j → R2 k b = R1 k b) (f : ∀ a, a ≠ k → R2 a = R1 a) (hj : j = o) : pw o R R2 := by
  subst hj
  intro a b hb
  by_cases e : a = k
  · subst e
    exact (g b hb).trans (h a b hb)
  · rw [f a e]
    exact h a b hb
/-- these rows are known at a place -/
def kn (ks : List Nat) (o : Nat) (R : rR) : Prop := ∀ k, k ∈ ks → ∃ v, R k o = some v
theorem kn.eq {ks V : List Nat} {o : Nat} {R R' : rR} (h : kn ks o R) (h' : eqR V R R') (hd : ∀ k, k ∈ ks → k ∉ V) : kn ks o R' := fun k hk => by
  rw [h' k (hd k hk)]
  exact h k hk
theorem kn.st {ks : List Nat} {o j : Nat} {R R' : rR} {k : Nat} {v : Int32} (h : kn ks o R) (e : R' k j = some v) (g : ∀ b, b ≠ j → R' k b = R k b) (f : ∀ a, a ≠ k → R' a = R a) : kn ks o R' := by
  intro a ha
  by_cases e1 : a = k
  · subst e1
    by_cases e2 : o = j
    · subst e2
      exact ⟨v, e⟩
    · rw [g o e2]
      exact h a ha
  · rw [f a e1]
    exact h a ha
/-- a method's code, where it has one, lies in the file -/
def MCD (f : Nat → Int32) (n : Nat) (o : Nat) (R : rR) : Prop := ∃ c, R 37 o = some c ∧ (c.toInt < 0 ∨ ∃ l r m s t : Int32, R 38 o = some l ∧ R 41 o = some r ∧ R 42 o = some m ∧ R 39 o = some s ∧ R 40 o = some t ∧ 0 ≤ l.toInt ∧ c.toInt + l.toInt ≤ n ∧ 0 ≤ r.toInt ∧ 0 ≤ m.toInt ∧ r.toInt + 8 * m.toInt ≤ n)
theorem MCD.fr {o : Nat} {R R' : rR} (h : MCD f n o R) (h' : ∀ k, k ∈ [37, 38, 39, 40, 41, 42] → R' k o = R k o) : MCD f n o R' := by
  unfold MCD at h ⊢
  rw [h' 37 (by decide), h' 38 (by decide), h' 39 (by decide), h' 40 (by decide), h' 41 (by decide), h' 42 (by decide)]
  exact h
/-- the known names: where each belongs, from when on -/
def kin (k : Int32) : Int32 := if k = 0 then 1 else if k = 1 ∨ k = 2 then 2 else if k = 3 then 3 else 4
def KW (I : rI) (R : rR) : Prop := (∀ k : Int32, 0 ≤ k.toInt → k.toInt < 10 → R 63 k.toNatClampNeg = some (kin k)) ∧ ∀ k : Int32, 0 ≤ k.toInt → k.toInt < 10 → ∃ v, R 64 k.toNatClampNeg = some v
theorem KW.mono {I I' : rI} {R R' : rR} (h : KW I R) (hI : ∀ k, k ∈ ([] : List Nat) → I' k = I k) (hR : ∀ k, k ∈ [63, 64] → R' k = R k) : KW I' R' := by
  unfold KW
  rw [hR 63 (by decide), hR 64 (by decide)]
  exact h
theorem ra_kn {g : xe_G} {m0 : Nat} {q : Nat → Nat} {z : Nat × Nat} {I : rI} {R : rR} {M : mi_H} {T : Nat → Option (Nat × mi_B)} {d pc : Nat} {tb : mi_B} {lv : List (Nat × Value)} {s0 : List Value} {Q : Option Value → mi_H → Prop} {i : Int32} {S' : mi_S} (h1 : tb.1 pc = some (.inl (o_ald (.object "java/lang/String")))) (hR : RS g m0 q z I R M) (h0 : 0 ≤ i.toInt) (h10 : i.toInt < 10) (e1 : mi_nk tb.2 (pc + 1, lv, .ref (g.2.1 (15 + i.toNatClampNeg)) :: s0, M) = S') (kk : ml T d tb S' Q) : ml T d tb (pc, lv, .int i :: .ref (q 62) :: s0, M) Q := by
  have hg : mi_ga M (q 62) (.object "java/lang/String") = some (10, fun i => (knl[i]?).map (fun j => Value.ref (g.2.1 j))) := by
    unfold mi_ga
    rw [hR.2.2.1]
    simp
  refine ml_ald h1 hg (vin_lt h0 (by omega)) ?_ e1 kk
  have hi : i.toNatClampNeg < 10 := by show i.toInt.toNat < 10; omega
  generalize i.toNatClampNeg = j at hi
  have : j = 0 ∨ j = 1 ∨ j = 2 ∨ j = 3 ∨ j = 4 ∨ j = 5 ∨ j = 6 ∨ j = 7 ∨ j = 8 ∨ j = 9 := by omega
  rcases this with rfl | rfl | rfl | rfl | rfl | rfl | rfl | rfl | rfl | rfl <;> rfl
theorem rl_kn {g : xe_G} {m0 : Nat} {q : Nat → Nat} {z : Nat × Nat} {I : rI} {R : rR} {M : mi_H} {T : Nat → Option (Nat × mi_B)} {d pc : Nat} {tb : mi_B} {lv : List (Nat × Value)} {s0 : List Value} {Q : Option Value → mi_H → Prop} {S' : mi_S} (h1 : tb.1 pc = some (.inl (o_alen (.object "java/lang/String")))) (hR : RS g m0 q z I R M) (e1 : mi_nk tb.2 (pc + 1, lv, .int (nI 10) :: s0, M) = S') (kk : ml T d tb S' Q) : ml T d tb (pc, lv, .ref (q 62) :: s0, M) Q := by
  have hg : mi_ga M (q 62) (.object "java/lang/String") = some (10, fun i => (knl[i]?).map (fun j => Value.ref (g.2.1 j))) := by
    unfold mi_ga
    rw [hR.2.2.1]
    simp
  exact ml_alen h1 hg e1 kk
def NW (f : Nat → Int32) (n : Nat) (I : rI) : Prop := (∀ k, k ∈ [65, 66, 67, 68, 69, 72] → ∃ v, I k = some v) ∧ ∃ b c : Int32, I 70 = some b ∧ I 71 = some c ∧ 0 ≤ c.toInt ∧ (c.toInt = 0 ∨ BSW f n b c)
theorem NW.fr {I I' : rI} (h : NW f n I) (h' : ∀ k, k ∈ [65, 66, 67, 68, 69, 70, 71, 72] → I' k = I k) : NW f n I' := by
  obtain ⟨h1, b, c, h2, h3, h4⟩ := h
  refine ⟨fun k hk => ?_, b, c, (h' 70 (by decide)).trans h2, (h' 71 (by decide)).trans h3, h4⟩
  rw [h' k (by simp only [List.mem_cons, List.not_mem_nil, or_false] at hk ⊢; omega)]
  exact h1 k hk
theorem NW.put {I I' : rI} {j : Nat} {v : Int32} (h : NW f n I) (hj : j ∈ [65, 66, 67, 68, 69, 72]) (e : I' j = some v) (g : ∀ k, k ≠ j → I' k = I k) : NW f n I' := by
  obtain ⟨h1, b, c, h2, h3, h4⟩ := h
  have e70 : (70 : Nat) ≠ j := by simp only [List.mem_cons, List.not_mem_nil, or_false] at hj; omega
  have e71 : (71 : Nat) ≠ j := by simp only [List.mem_cons, List.not_mem_nil, or_false] at hj; omega
  refine ⟨fun k hk => ?_, b, c, (g 70 e70).trans h2, (g 71 e71).trans h3, h4⟩
  by_cases q : k = j
  · subst q
    exact ⟨v, e⟩
  · rw [g k q]
    exact h1 k hk
end MIO
section MIO2
variable {w : Int32}
theorem kin_1 (h : kin w = 1) : w = 0 := by
  unfold kin at h
  split at h
  · assumption
  · split at h
    · exact absurd h (by decide)
    · split at h <;> exact absurd h (by decide)
theorem kin_2 (h : kin w = 2) : w = 1 ∨ w = 2 := by
  unfold kin at h
  split at h
  · exact absurd h (by decide)
  · split at h
    · assumption
    · split at h <;> exact absurd h (by decide)
theorem kin_3 (h : kin w = 3) : w = 3 := by
  unfold kin at h
  split at h
  · exact absurd h (by decide)
  · split at h
    · exact absurd h (by decide)
    · split at h
      · assumption
      · exact absurd h (by decide)
theorem kin_4 (h0 : 0 ≤ w.toInt) (h1 : w.toInt < 10) (h : kin w = 4) : 4 ≤ w.toInt ∧ w.toInt ≤ 9 := by
  unfold kin at h
  split at h
  · exact absurd h (by decide)
  · split at h
    · exact absurd h (by decide)
    · split at h
      · exact absurd h (by decide)
      · rename_i a b c
        have a1 : w.toInt ≠ 0 := fun e => a (Int32.toInt_inj.mp e)
        have b1 : w.toInt ≠ 1 := fun e => b (Or.inl (Int32.toInt_inj.mp e))
        have b2 : w.toInt ≠ 2 := fun e => b (Or.inr (Int32.toInt_inj.mp e))
        have c1 : w.toInt ≠ 3 := fun e => c (Int32.toInt_inj.mp e)
        omega
end MIO2
section MIO3
variable {f : Nat → Int32} {n : Nat} {I I' : rI} {x a : Int32}
theorem w49 (h : 4 ≤ x.toInt ∧ x.toInt ≤ 9) : x = 4 ∨ x = 5 ∨ x = 6 ∨ x = 7 ∨ x = 8 ∨ x = 9 := by
  have : x.toInt = 4 ∨ x.toInt = 5 ∨ x.toInt = 6 ∨ x.toInt = 7 ∨ x.toInt = 8 ∨ x.toInt = 9 := by omega
  rcases this with e | e | e | e | e | e
  · exact Or.inl (i_ofInt 4 (by omega) e)
  · exact Or.inr (Or.inl (i_ofInt 5 (by omega) e))
  · exact Or.inr (Or.inr (Or.inl (i_ofInt 6 (by omega) e)))
  · exact Or.inr (Or.inr (Or.inr (Or.inl (i_ofInt 7 (by omega) e))))
  · exact Or.inr (Or.inr (Or.inr (Or.inr (Or.inl (i_ofInt 8 (by omega) e)))))
  · exact Or.inr (Or.inr (Or.inr (Or.inr (Or.inr (i_ofInt 9 (by omega) e)))))
theorem nw_boot (h : NW f n I) (hI : eqI [70, 71] I I') (w : x ≠ 0 ∧ I' = I ∨ x = 0 ∧ I' 70 = some a ∧ I' 71 = some (f2 f a) ∧ BSW f n a (f2 f a)) : NW f n I' := by
  rcases w with ⟨-, e⟩ | ⟨-, h1, h2, h3⟩
  · rw [e]
    exact h
  · refine ⟨fun k hk => ?_, a, _, h1, h2, f2_pos, Or.inr h3⟩
    rw [hI k (by simp only [List.mem_cons, List.not_mem_nil, or_false] at hk ⊢; omega)]
    exact h.1 k hk
theorem nw_comp (h : NW f n I) (hI : eqI [47, 48, 72] I I') (w : x = 0 ∧ I' 72 = some a ∨ x ≠ 0 ∧ I' 72 = I 72) : NW f n I' := by
  obtain ⟨h1, b, c, h2, h3, h4⟩ := h
  refine ⟨fun k hk => ?_, b, c, (hI 70 (by decide)).trans h2, (hI 71 (by decide)).trans h3, h4⟩
  by_cases e : k = 72
  · subst e
    rcases w with ⟨-, w⟩ | ⟨-, w⟩
    · exact ⟨_, w⟩
    · rw [w]
      exact h1 72 (by decide)
  · rw [hI k (by simp only [List.mem_cons, List.not_mem_nil, or_false] at hk ⊢; omega)]
    exact h1 k hk
end MIO3
