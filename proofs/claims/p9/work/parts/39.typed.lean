/-! rules over typed heaps (my own text) -/
section MIT
def mi_blk (tb : mi_B) : Nat → mi_S → Option mi_S
  | 0, S => some S
  | n + 1, S => match tb.1 S.1 with
    | some (.inl o) => match o S with
      | some S1 => mi_blk tb n (mi_nk tb.2 S1)
      | none => none
    | _ => none
variable {g : xe_G} {Y : yT} {M : mi_H} {T : Nat → Option (Nat × mi_B)} {d pc : Nat} {tb : mi_B} {lv : List (Nat × Value)} {s0 : List Value} {Q : Option Value → mi_H → Prop}
theorem ml_blk : ∀ (n : Nat) {S S' : mi_S}, mi_blk tb n S = some S' → ml T d tb S' Q → ml T d tb S Q := by
  intro n
  induction n with
  | zero => intro S S' h k; cases h; exact k
  | succ n ih =>
    intro S S' h k
    rw [mi_blk] at h
    split at h
    · rename_i o h1
      split at h
      · rename_i S1 h2
        obtain ⟨a, b, c, e⟩ := S
        exact ml_st h1 h2 rfl (ih h k)
      · cases h
    · cases h
theorem WF.lnk {a k : Nat} {ps : List Nat} (h : WF g Y M) (hY : Y.1 a = some (k, ps)) (hk : k < 12) : lnk Y a k ps := by
  obtain ⟨l, -, -, -, h4, -⟩ := (h.1 a k ps hY).obj hk
  exact h4
theorem okY.mem {a k da n : Nat} (h : okY Y M a 23 [k, da, n]) : memOk Y M a k da n := by
  rcases h with ⟨h1, -⟩ | ⟨n', r', -, ty, f, h1, -⟩ | ⟨-, n', da', m', e, h⟩
  · omega
  · cases h1
  · cases e
    exact h
theorem ta_mem {k da n a : Nat} {i : Int32} (h1 : tb.1 pc = some (.inl (o_ald (.object "ClassGate$Member")))) (hW : WF g Y M) (hY : Y.1 a = some (23, [k, da, n])) (hi : vp_in i k) (k0 : ml T d tb (mi_nk tb.2 (pc + 1, lv, .null :: s0, M)) Q) (kk : ∀ b, Y.1 b = some (6, [da, n]) → ml T d tb (mi_nk tb.2 (pc + 1, lv, .ref b :: s0, M)) Q) : ml T d tb (pc, lv, .int i :: .ref a :: s0, M) Q := by
  obtain ⟨-, f, h2, h3⟩ := (hW.1 a _ _ hY).mem
  have hg : mi_ga M a (.object "ClassGate$Member") = some (k, fun i => some (va_rf (f i))) := by
    unfold mi_ga
    rw [h2]
    simp
  cases hf : f i.toNatClampNeg with
  | none => exact ml_ald (v := .null) h1 hg hi (by simp only [hf, va_rf]) rfl k0
  | some b => exact ml_ald (v := .ref b) h1 hg hi (by simp only [hf, va_rf]) rfl (kk b (h3 _ _ hf))
theorem tl_mem {k da n a : Nat} {S' : mi_S} (h1 : tb.1 pc = some (.inl (o_alen (.object "ClassGate$Member")))) (hW : WF g Y M) (hY : Y.1 a = some (23, [k, da, n])) (e1 : mi_nk tb.2 (pc + 1, lv, .int (nI k) :: s0, M) = S') (kk : ml T d tb S' Q) : ml T d tb (pc, lv, .ref a :: s0, M) Q := by
  obtain ⟨-, f, h2, h3⟩ := (hW.1 a _ _ hY).mem
  have hg : mi_ga M a (.object "ClassGate$Member") = some (k, fun i => some (va_rf (f i))) := by
    unfold mi_ga
    rw [h2]
    simp
  exact ml_alen h1 hg e1 kk
theorem tl_row {k n a : Nat} {ty : FieldType} {r : List Nat} {S' : mi_S} (h1 : tb.1 pc = some (.inl (o_alen ty))) (hW : WF g Y M) (hY : Y.1 a = some (k, n :: r)) (hk : rowT k = some ty) (e1 : mi_nk tb.2 (pc + 1, lv, .int (nI n) :: s0, M) = S') (kk : ml T d tb S' Q) : ml T d tb (pc, lv, .ref a :: s0, M) Q := by
  obtain ⟨ty', f, h2, h3, -⟩ := (hW.1 a _ _ hY).row hk
  cases hk.symm.trans h2
  exact mo_alen h1 h3 e1 kk
theorem ta_int {n a : Nat} {r : List Nat} {i : Int32} (h1 : tb.1 pc = some (.inl (o_ald .int))) (hW : WF g Y M) (hY : Y.1 a = some (21, n :: r)) (hi : vp_in i n) (kk : ∀ x, ml T d tb (mi_nk tb.2 (pc + 1, lv, .int x :: s0, M)) Q) : ml T d tb (pc, lv, .int i :: .ref a :: s0, M) Q := by
  obtain ⟨ty', f, h2, h3, -⟩ := (hW.1 a _ _ hY).row (ty := .int) rfl
  cases h2
  exact mo_ald h1 h3 hi rfl (kk _)
theorem WF.rlen {a k n : Nat} {r : List Nat} {ty : FieldType} (hW : WF g Y M) (hY : Y.1 a = some (k, n :: r)) (hk : rowT k = some ty) : n < 1073741824 := by
  obtain ⟨ty', f, -, -, h, -⟩ := (hW.1 a _ _ hY).row hk
  exact h
theorem WF.pint {p j : Nat} {pp : List Nat} (hW : WF g Y M) (hY : Y.1 p = some (7, pp)) (hj : (j == 0 || j == 7) = true) : ∃ x, mi_gf M p 7 j = some (.int x) := by
  obtain ⟨size, n, m, q, f, cc, hP, -⟩ := hW.pool hY
  have : j = 0 ∨ j = 7 := by simpa using hj
  rcases this with rfl | rfl
  · exact ⟨_, gf_ob hP.1 rfl⟩
  · exact ⟨_, gf_ob hP.1 rfl⟩
theorem tg_pint {j p : Nat} {pp : List Nat} (h1 : tb.1 pc = some (.inl (o_get 7 j))) (hW : WF g Y M) (hY : Y.1 p = some (7, pp)) (hj : (j == 0 || j == 7) = true) (kk : ∀ x, mi_gf M p 7 j = some (.int x) → ml T d tb (mi_nk tb.2 (pc + 3, lv, .int x :: s0, M)) Q) : ml T d tb (pc, lv, .ref p :: s0, M) Q := by
  obtain ⟨x, hx⟩ := hW.pint hY hj
  exact ml_get h1 hx rfl (kk x hx)
theorem ml_slen {a lk : Nat} {f : Nat → Option Value} {S' : mi_S} (h1 : tb.1 pc = some (.inl o_slength)) (hL : M.1 a = some (.inr (100 + lk, f))) (hk : lk < 30) (hc : decide ((s0.map fun v => v.category).sum ≤ 8) = true) (e1 : mi_nk tb.2 (pc + 3, lv, .int (nI (xe_lt lk).2.2.2.length) :: s0, M) = S') (kk : ml T d tb S' Q) : ml T d tb (pc, lv, .ref a :: s0, M) Q := by
  refine ml_st h1 (S1 := (pc + 3, lv, .int (nI (xe_lt lk).2.2.2.length) :: s0, M)) ?_ e1 kk
  simp only [o_slength, hL]
  rw [if_pos ⟨by omega, by omega, of_decide_eq_true hc⟩, show 100 + lk - 100 = lk by omega]
theorem ml_scat {a lk : Nat} {j : Int32} {f : Nat → Option Value} {S' : mi_S} (h1 : tb.1 pc = some (.inl o_scharAt)) (hL : M.1 a = some (.inr (100 + lk, f))) (hk : lk < 30) (hc : decide ((s0.map fun v => v.category).sum ≤ 8) = true) (h0 : ¬ j < 0) (hj : j.toNatClampNeg < (xe_lt lk).2.2.2.length) (e1 : mi_nk tb.2 (pc + 3, lv, .int (xe_ch lk j.toNatClampNeg) :: s0, M) = S') (kk : ml T d tb S' Q) : ml T d tb (pc, lv, .int j :: .ref a :: s0, M) Q := by
  refine ml_st h1 (S1 := (pc + 3, lv, .int (xe_ch lk j.toNatClampNeg) :: s0, M)) ?_ e1 kk
  simp only [o_scharAt, hL]
  rw [if_pos ⟨by omega, by omega, of_decide_eq_true hc, h0, by rw [show 100 + lk - 100 = lk by omega]; exact hj⟩, show 100 + lk - 100 = lk by omega]
theorem nlt0 {i : Int32} (h : 0 ≤ i.toInt) : ¬ i < 0 := by
  intro h1
  have h2 := Int32.lt_iff_toInt_lt.mp h1
  have h0 : (0 : Int32).toInt = 0 := rfl
  omega
theorem vin_nI {i : Int32} {n : Nat} (h0 : 0 ≤ i.toInt) (h : ¬ nI n ≤ i) : vp_in i n := vin_ge (nlt0 h0) h
theorem vin_nat {i : Int32} {n : Nat} (h : vp_in i n) : i.toNatClampNeg < n := Nat.not_le.mp fun q => h (Or.inr q)
def fr (S : List Nat) (M M' : mi_H) : Prop := ∀ z, z ∉ S → M'.1 z = M.1 z
theorem fr.rf {S : List Nat} : fr S M M := fun _ _ => rfl
theorem fr.tr {S S' : List Nat} {M1 M2 : mi_H} (h : fr S M M1) (h' : fr S' M1 M2) (hs : ∀ x, x ∈ S' → x ∈ S) : fr S M M2 := fun z hz => (h' z (fun q => hz (hs z q))).trans (h z hz)
theorem fr.up {S : List Nat} {M1 : mi_H} {a : Nat} {c : mi_C} (h : fr S M M1) (ha : a ∈ S) : fr S M (up M1 a c) := fun z hz => (up_ne (fun (e : z = a) => hz (e ▸ ha))).trans (h z hz)
theorem fr.pf {S : List Nat} {M1 M2 : mi_H} {a k j : Nat} {v : Value} (h : fr S M M1) (hp : pf M1 M2 a k j v) (ha : a ∈ S) : fr S M M2 := fun z hz => (hp.1 z (fun (e : z = a) => hz (e ▸ ha))).trans (h z hz)
theorem nin_nil {x : Nat} : x ∉ ([] : List Nat) := by simp
theorem nin_cons {x a : Nat} {l : List Nat} (h : x ≠ a) (h' : x ∉ l) : x ∉ a :: l := by
  simp only [List.mem_cons, not_or]
  exact ⟨h, h'⟩
theorem fr.gf {S : List Nat} {M' : mi_H} {x k j : Nat} {v : Option Value} (h : fr S M M') (hx : x ∉ S) (hg : mi_gf M x k j = v) : mi_gf M' x k j = v := gf_fr (h x hx) hg
def sf (g : xe_G) (Y : yT) (S : List Nat) (M M' : mi_H) : Prop := st g Y M M' ∧ fr S M M'
theorem sf.rf {S : List Nat} (h : WF g Y M) : sf g Y S M M := ⟨st.rf h, fr.rf⟩
theorem sf.tr {S S' : List Nat} {M1 M2 : mi_H} (h : sf g Y S M M1) (h' : sf g Y S' M1 M2) (hs : ∀ x, x ∈ S' → x ∈ S) : sf g Y S M M2 := ⟨h.1.tr h'.1, h.2.tr h'.2 hs⟩
theorem sf.put {S : List Nat} {M1 M2 : mi_H} {a k j : Nat} {v : Value} (h : sf g Y S M M1) (h' : st g Y M M2) (hp : pf M1 M2 a k j v) (ha : a ∈ S) : sf g Y S M M2 := ⟨h', h.2.pf hp ha⟩
def fZ (g : xe_G) (Y : yT) (S : List Nat) (M : mi_H) : Option Value → mi_H → Prop := fun v M' => (∃ x : Int32, v = some (.int x) ∧ (x = 0 ∨ x = 1)) ∧ sf g Y S M M'
def f0 (g : xe_G) (Y : yT) (S : List Nat) (M : mi_H) : Option Value → mi_H → Prop := fun v M' => v = some (.int 0) ∧ sf g Y S M M'
def fV (g : xe_G) (Y : yT) (S : List Nat) (M : mi_H) : Option Value → mi_H → Prop := fun v M' => v = none ∧ sf g Y S M M'
theorem WF.bm {b da n : Nat} (h : WF g Y M) (hY : Y.1 b = some (1, [da, n])) : n ≤ 65540 := by
  obtain ⟨l, h1, -, -, -, h5⟩ := (h.1 b 1 _ hY).obj (by decide)
  exact h5
end MIT
