/-! the reference: members (my own text) -/
section MIE
def KFR : List Nat := [27, 28, 29, 30, 31, 32, 33]
def FKN (k : Nat) (R : rR) : Prop := ∀ x, x < k → kn [27, 28, 29, 30, 31, 32, 33] x R
theorem FKN.step {k : Nat} {R R' : rR} (h : FKN k R) (hp : pw k R R') (hk : kn [27, 28, 29, 30, 31, 32, 33] k R') : FKN (k + 1) R' := by
  intro x hx
  by_cases e : x = k
  · subst e
    exact hk
  · intro a ha
    rw [hp a x e]
    exact h x (by omega) a ha
theorem FKN.eq {k : Nat} {V : List Nat} {R R' : rR} (h : FKN k R) (h' : eqR V R R') (hd : ∀ a, a ∈ [27, 28, 29, 30, 31, 32, 33] → a ∉ V) : FKN k R' := fun x hx => (h x hx).eq h' hd
variable {f : Nat → Int32} {n S : Nat} {sa sl ch : Nat → Int32}
def MK1 (f : Nat → Int32) (n S : Nat) (sa sl ch : Nat → Int32) (x : Nat) (R : rR) : Prop := kn [34, 35, 37, 38, 39, 40, 42, 43, 44, 45, 46] x R ∧ MCD f n x R ∧ ∃ ds : Int32, R 36 x = some ds ∧ 0 ≤ ds.toInt ∧ ds.toInt < S ∧ MTX sa sl ch ds
def MKN (f : Nat → Int32) (n S : Nat) (sa sl ch : Nat → Int32) (k : Nat) (R : rR) : Prop := ∀ x, x < k → MK1 f n S sa sl ch x R
theorem MK1.fr {x : Nat} {R R' : rR} (h : MK1 f n S sa sl ch x R) (h' : ∀ k, R' k x = R k x) : MK1 f n S sa sl ch x R' := by
  obtain ⟨h1, h2, ds, h3, h4⟩ := h
  refine ⟨fun k hk => by rw [h' k]; exact h1 k hk, h2.fr (fun k _ => h' k), ds, by rw [h' 36]; exact h3, h4⟩
theorem MKN.step {k : Nat} {R R' : rR} (h : MKN f n S sa sl ch k R) (hp : pw k R R') (hk : MK1 f n S sa sl ch k R') : MKN f n S sa sl ch (k + 1) R' := by
  intro x hx
  by_cases e : x = k
  · subst e
    exact hk
  · exact (h x (by omega)).fr (fun a => hp a x e)
theorem MKN.eq {k : Nat} {R R' : rR} (h : MKN f n S sa sl ch k R) (h' : eqR [] R R') : MKN f n S sa sl ch k R' := fun x hx => (h x hx).fr (fun a => congrFun (h' a (by simp)) x)
end MIE
