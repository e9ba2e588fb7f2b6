/-! cells wholly known; what a write leaves alone (my own text) -/
section MIK
def ob (ci : Nat) (l : List Value) : mi_C := .inr (ci, fun k => l[k]?)
def ar (ty : FieldType) (n : Nat) (f : Nat → Int32) : mi_C := .inl (ty, n, fun i => some (.int (f i)))
def up (M : mi_H) (a : Nat) (c : mi_C) : mi_H := (va_up M.1 a (some c), M.2)
theorem up_at {M : mi_H} {a : Nat} {c : mi_C} : (up M a c).1 a = some c := by simp [up, va_up]
theorem up_ne {M : mi_H} {a b : Nat} {c : mi_C} (h : b ≠ a) : (up M a c).1 b = M.1 b := by simp [up, va_up, h]
theorem up_eq {M : mi_H} {a b : Nat} {c c' : mi_C} (hb : M.1 b = some c') (h : b ≠ a) : (up M a c).1 b = some c' := by rw [up_ne h]; exact hb
theorem gf_ob {M : mi_H} {a ci k : Nat} {l : List Value} {v : Value} (h : M.1 a = some (ob ci l)) (hv : l[k]? = some v) : mi_gf M a ci k = some v := by
  unfold mi_gf
  rw [h]
  simpa [ob] using hv
theorem ga_ar {M : mi_H} {a n : Nat} {ty : FieldType} {f : Nat → Int32} (h : M.1 a = some (ar ty n f)) : mi_ga M a ty = some (n, fun i => some (.int (f i))) := by
  unfold mi_ga
  rw [h]
  simp [ar]
theorem ob_set {l : List Value} {k : Nat} {v : Value} (hk : k < l.length) : va_up (fun j => l[j]?) k (some v) = fun j => (l.set k v)[j]? := by
  funext j
  by_cases h : j = k
  · subst h
    simp [va_up, hk]
  · simp [va_up, h, List.getElem?_set_ne (fun q => h q.symm)]
theorem ar_set {f : Nat → Int32} {k : Nat} {x : Int32} : va_up (fun i => some (Value.int (f i))) k (some (.int x)) = fun i => some (Value.int (upd f k x i)) := by
  funext j
  by_cases h : j = k
  · subst h
    simp [va_up, upd]
  · simp [va_up, upd, h]
variable {T : Nat → Option (Nat × mi_B)} {d pc : Nat} {tb : mi_B} {lv : List (Nat × Value)} {st : List Value} {M : mi_H} {Q Q' : Option Value → mi_H → Prop}
theorem mo_get {ci k a : Nat} {l : List Value} {v : Value} {S' : mi_S} (h1 : tb.1 pc = some (.inl (o_get ci k))) (h : M.1 a = some (ob ci l)) (hv : l[k]? = some v) (e1 : mi_nk tb.2 (pc + 3, lv, v :: st, M) = S') (kk : ml T d tb S' Q) : ml T d tb (pc, lv, .ref a :: st, M) Q := ml_get h1 (gf_ob h hv) e1 kk
theorem mo_put {ci k a : Nat} {ty : FieldType} {l : List Value} {v : Value} {S' : mi_S} (h1 : tb.1 pc = some (.inl (o_put ci k ty))) (h : M.1 a = some (ob ci l)) (hv : mi_fit ty v = true) (hk : k < l.length) (e1 : mi_nk tb.2 (pc + 3, lv, st, up M a (ob ci (l.set k v))) = S') (kk : ml T d tb S' Q) : ml T d tb (pc, lv, v :: .ref a :: st, M) Q :=
  ml_put h1 h hv (by rw [ob_set hk]; exact e1) kk
theorem mo_ald {ty : FieldType} {a n : Nat} {i : Int32} {f : Nat → Int32} {S' : mi_S} (h1 : tb.1 pc = some (.inl (o_ald ty))) (h : M.1 a = some (ar ty n f)) (hi : vp_in i n) (e1 : mi_nk tb.2 (pc + 1, lv, .int (f i.toNatClampNeg) :: st, M) = S') (kk : ml T d tb S' Q) : ml T d tb (pc, lv, .int i :: .ref a :: st, M) Q := ml_ald h1 (ga_ar h) hi rfl e1 kk
theorem mo_alen {ty : FieldType} {a n : Nat} {f : Nat → Int32} {S' : mi_S} (h1 : tb.1 pc = some (.inl (o_alen ty))) (h : M.1 a = some (ar ty n f)) (e1 : mi_nk tb.2 (pc + 1, lv, .int (nI n) :: st, M) = S') (kk : ml T d tb S' Q) : ml T d tb (pc, lv, .ref a :: st, M) Q := ml_alen h1 (ga_ar h) e1 kk
theorem mo_ast {ty : FieldType} {nar : Int32 → Int32} {a n : Nat} {i x : Int32} {f : Nat → Int32} {S' : mi_S} (h1 : tb.1 pc = some (.inl (o_ast ty nar))) (h : M.1 a = some (ar ty n f)) (hi : vp_in i n) (e1 : mi_nk tb.2 (pc + 1, lv, st, up M a (ar ty n (upd f i.toNatClampNeg (nar x)))) = S') (kk : ml T d tb S' Q) : ml T d tb (pc, lv, .int x :: .int i :: .ref a :: st, M) Q :=
  ml_ast h1 (ga_ar h) hi (by rw [ar_set]; exact e1) kk
/-- numbers -/
theorem vin_of {i : Int32} {n : Nat} (h0 : ¬ i < 0) (h1 : i < nI n) : vp_in i n := by
  rintro (h | h)
  · exact h0 h
  · have h2 := Int32.lt_iff_toInt_lt.mp h1
    have h3 := mi_nn i h0
    have h4 : (nI n).toInt ≤ n := by
      show (Int32.ofNat n).toInt ≤ n
      rw [Int32.toInt_ofNat']
      have := Int.bmod_le (x := (n : Int)) (m := 2 ^ 32) (by decide)
      have h9 : Int.bmod (n : Int) (2 ^ 32) = (n : Int) % (2 ^ 32 : Nat) ∨ Int.bmod (n : Int) (2 ^ 32) = (n : Int) % (2 ^ 32 : Nat) - (2 ^ 32 : Nat) := by
        unfold Int.bmod
        simp only
        split
        · exact Or.inl rfl
        · exact Or.inr rfl
      have h8 : (n : Int) % (2 ^ 32 : Nat) ≤ n := by omega
      rcases h9 with h9 | h9 <;> rw [h9] <;> omega
    omega
end MIK
