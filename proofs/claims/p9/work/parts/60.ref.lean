/-! the reference's heap: fields and rows, in part unknown (my own text) -/
section MIM
def rt (k : Nat) : Option (FieldType × Nat) := match k with
  | 1 => some (.char, 66000)
  | 2 => some (.char, 66000)
  | 4 => some (.int, 24000)
  | 5 => some (.int, 24000)
  | 6 => some (.int, 24000)
  | 7 => some (.int, 4096)
  | 12 => some (.byte, 65600)
  | 13 => some (.byte, 65560)
  | 14 => some (.byte, 65560)
  | 15 => some (.byte, 65560)
  | 21 => some (.int, 65540)
  | 22 => some (.int, 65540)
  | 23 => some (.int, 1)
  | 24 => some (.int, 1)
  | 27 => some (.int, 8300)
  | 28 => some (.int, 8300)
  | 29 => some (.int, 8300)
  | 30 => some (.int, 8300)
  | 31 => some (.int, 8300)
  | 32 => some (.int, 8300)
  | 33 => some (.int, 8300)
  | 34 => some (.int, 8300)
  | 35 => some (.int, 8300)
  | 36 => some (.int, 8300)
  | 37 => some (.int, 8300)
  | 38 => some (.int, 8300)
  | 39 => some (.int, 8300)
  | 40 => some (.int, 8300)
  | 41 => some (.int, 8300)
  | 42 => some (.int, 8300)
  | 43 => some (.int, 8300)
  | 44 => some (.int, 8300)
  | 45 => some (.int, 8300)
  | 46 => some (.int, 8300)
  | 63 => some (.int, 10)
  | 64 => some (.int, 10)
  | 80 => some (.int, 65540)
  | 81 => some (.int, 65540)
  | _ => none
def rx (k : Nat) : Bool := (rt k).isSome || k == 62
def knl : List Nat := [15, 16, 17, 18, 19, 20, 21, 22, 23, 24]
abbrev rI : Type := Nat → Option Int32
abbrev rR : Type := Nat → Nat → Option Int32
def rfld (q : Nat → Nat) (I : rI) (k : Nat) : Option Value := if rx k = true then some (.ref (q k)) else (I k).map Value.int
/-- the literals of the reference -/
abbrev rlk (k : Nat) : Prop := 15 ≤ k ∧ k < 30
def RS (g : xe_G) (m0 : Nat) (q : Nat → Nat) (z : Nat × Nat) (I : rI) (R : rR) (M : mi_H) : Prop :=
  M.1 m0 = some (.inr (12, rfld q I)) ∧ (∀ k t, rt k = some t → M.1 (q k) = some (.inl (t.1, t.2, fun i => (R k i).map Value.int))) ∧ M.1 (q 62) = some (.inl (.object "java/lang/String", 10, fun i => (knl[i]?).map (fun j => Value.ref (g.2.1 j)))) ∧ (∀ j k, rx j = true → rx k = true → q j = q k → j = k) ∧ M.2 = z ∧ ∀ k, rlk k → ∃ f, M.1 (g.2.1 k) = some (.inr (100 + k, f))
def eqI (W : List Nat) (I I' : rI) : Prop := ∀ k, k ∉ W → I' k = I k
def eqR (V : List Nat) (R R' : rR) : Prop := ∀ k, k ∉ V → R' k = R k
theorem eqI.rf {W : List Nat} {I : rI} : eqI W I I := fun _ _ => rfl
theorem eqR.rf {V : List Nat} {R : rR} : eqR V R R := fun _ _ => rfl
theorem eqI.tr {W W' : List Nat} {I I1 I2 : rI} (h : eqI W I I1) (h' : eqI W' I1 I2) (hs : ∀ k, k ∈ W' → k ∈ W) : eqI W I I2 := fun k hk => (h' k (fun q => hk (hs k q))).trans (h k hk)
theorem eqR.tr {W W' : List Nat} {R R1 R2 : rR} (h : eqR W R R1) (h' : eqR W' R1 R2) (hs : ∀ k, k ∈ W' → k ∈ W) : eqR W R R2 := fun k hk => (h' k (fun q => hk (hs k q))).trans (h k hk)
theorem eqI.put {W : List Nat} {I I1 I2 : rI} {j : Nat} (h : eqI W I I1) (h' : ∀ k, k ≠ j → I2 k = I1 k) (hs : j ∈ W) : eqI W I I2 := fun k hk => (h' k (fun e => hk (e ▸ hs))).trans (h k hk)
theorem eqR.put {W : List Nat} {R R1 R2 : rR} {j : Nat} (h : eqR W R R1) (h' : ∀ k, k ≠ j → R2 k = R1 k) (hs : j ∈ W) : eqR W R R2 := fun k hk => (h' k (fun e => hk (e ▸ hs))).trans (h k hk)
/-- for contexts: a list of fields that stay -/
theorem pIx {I I' : rI} {j : Nat} {L : List Nat} (f : ∀ k, k ≠ j → I' k = I k) (h : j ∉ L) : ∀ k, k ∈ L → I' k = I k := fun k hk => f k (fun e => h (e ▸ hk))
theorem cIx {I I' : rI} {W L : List Nat} (f : eqI W I I') (h : ∀ k, k ∈ L → k ∉ W) : ∀ k, k ∈ L → I' k = I k := fun k hk => f k (h k hk)
theorem pRx {R R' : rR} {j : Nat} {L : List Nat} (f : ∀ k, k ≠ j → R' k = R k) (h : j ∉ L) : ∀ k, k ∈ L → R' k = R k := fun k hk => f k (fun e => h (e ▸ hk))
theorem cRx {R R' : rR} {W L : List Nat} (f : eqR W R R') (h : ∀ k, k ∈ L → k ∉ W) : ∀ k, k ∈ L → R' k = R k := fun k hk => f k (h k hk)
variable {g : xe_G} {m0 : Nat} {q : Nat → Nat} {z : Nat × Nat} {I : rI} {R : rR} {M : mi_H} {T : Nat → Option (Nat × mi_B)} {d pc : Nat} {tb : mi_B} {lv : List (Nat × Value)} {s0 : List Value} {Q : Option Value → mi_H → Prop}
theorem RS.row {k : Nat} {ty : FieldType} {n : Nat} (h : RS g m0 q z I R M) (hk : rt k = some (ty, n)) : mi_ga M (q k) ty = some (n, fun i => (R k i).map Value.int) := by
  have := h.2.1 k _ hk
  unfold mi_ga
  rw [this]
  simp
theorem RS.okc {na : Nat} {st As : List Value} (h : RS g m0 q z I R M) (h1 : (st.take na).reverse = .ref m0 :: As) (h2 : decide (na ≤ st.length) = true) (h3 : decide (((st.drop na).map fun v => v.category).sum ≤ 8) = true) : mi_okc (some 12) na (pc, lv, st, M) = true := by
  unfold mi_okc
  simp only [h1, h.1, h2, h3]
  rfl
theorem rg_int {j : Nat} {x : Int32} {S' : mi_S} (h1 : tb.1 pc = some (.inl (o_get 12 j))) (hR : RS g m0 q z I R M) (hj : rx j = false) (hi : I j = some x) (e1 : mi_nk tb.2 (pc + 3, lv, .int x :: s0, M) = S') (kk : ml T d tb S' Q) : ml T d tb (pc, lv, .ref m0 :: s0, M) Q :=
  ml_get h1 (by unfold mi_gf; rw [hR.1]; simp [rfld, hj, hi]) e1 kk
theorem rg_ref {j : Nat} {S' : mi_S} (h1 : tb.1 pc = some (.inl (o_get 12 j))) (hR : RS g m0 q z I R M) (hj : rx j = true) (e1 : mi_nk tb.2 (pc + 3, lv, .ref (q j) :: s0, M) = S') (kk : ml T d tb S' Q) : ml T d tb (pc, lv, .ref m0 :: s0, M) Q :=
  ml_get h1 (by unfold mi_gf; rw [hR.1]; simp [rfld, hj]) e1 kk
theorem rl_len {k n : Nat} {ty : FieldType} {S' : mi_S} (h1 : tb.1 pc = some (.inl (o_alen ty))) (hR : RS g m0 q z I R M) (hk : rt k = some (ty, n)) (e1 : mi_nk tb.2 (pc + 1, lv, .int (nI n) :: s0, M) = S') (kk : ml T d tb S' Q) : ml T d tb (pc, lv, .ref (q k) :: s0, M) Q := ml_alen h1 (hR.row hk) e1 kk
theorem ra_ld {k n : Nat} {ty : FieldType} {i x : Int32} {S' : mi_S} (h1 : tb.1 pc = some (.inl (o_ald ty))) (hR : RS g m0 q z I R M) (hk : rt k = some (ty, n)) (hi : vp_in i n) (hv : R k i.toNatClampNeg = some x) (e1 : mi_nk tb.2 (pc + 1, lv, .int x :: s0, M) = S') (kk : ml T d tb S' Q) : ml T d tb (pc, lv, .int i :: .ref (q k) :: s0, M) Q :=
  ml_ald h1 (hR.row hk) hi (by simp only [hv, Option.map_some]) e1 kk
def iset (I : rI) (j : Nat) (x : Int32) : rI := fun k => if k = j then some x else I k
def rset (R : rR) (k i : Nat) (x : Int32) : rR := fun a => if a = k then (fun b => if b = i then some x else R a b) else R a
theorem rp_int {j : Nat} {x : Int32} (h1 : tb.1 pc = some (.inl (o_put 12 j .int))) (hR : RS g m0 q z I R M) (hj : rx j = false) (kk : ∀ M' I', RS g m0 q z I' R M' → I' j = some x → (∀ k, k ≠ j → I' k = I k) → ml T d tb (mi_nk tb.2 (pc + 3, lv, s0, M')) Q) : ml T d tb (pc, lv, .int x :: .ref m0 :: s0, M) Q := by
  refine ml_put h1 hR.1 rfl rfl (kk _ (iset I j x) ⟨?_, fun k t hk => ?_, ?_, hR.2.2.2.1, hR.2.2.2.2.1, fun k hk => ?_⟩ (by simp [iset]) (fun k hk => by simp [iset, hk]))
  · show va_up M.1 m0 _ m0 = _
    rw [va_up, if_pos rfl]
    congr 3
    funext k
    unfold rfld
    by_cases h : k = j
    · subst h
      simp [va_up, hj, iset]
    · simp [va_up, h, iset]
  · have h0 := hR.2.1 k t hk
    show va_up M.1 m0 _ (q k) = _
    rw [va_up, if_neg]
    · exact h0
    · intro e
      rw [e, hR.1] at h0
      cases h0
  · have h0 := hR.2.2.1
    show va_up M.1 m0 _ (q 62) = _
    rw [va_up, if_neg]
    · exact h0
    · intro e
      rw [e, hR.1] at h0
      cases h0
  · obtain ⟨f, h0⟩ := hR.2.2.2.2.2 k hk
    refine ⟨f, ?_⟩
    show va_up M.1 m0 _ (g.2.1 k) = _
    rw [va_up, if_neg]
    · exact h0
    · intro e
      rw [e, hR.1] at h0
      have h2 := congrArg (fun o => match o with | some (Sum.inr p) => p.1 | _ => 0) h0
      simp only at h2
      omega
theorem ra_st {k n : Nat} {ty : FieldType} {nar : Int32 → Int32} {i x : Int32} (h1 : tb.1 pc = some (.inl (o_ast ty nar))) (hR : RS g m0 q z I R M) (hk : rt k = some (ty, n)) (hi : vp_in i n) (kk : ∀ M' R', RS g m0 q z I R' M' → R' k i.toNatClampNeg = some (nar x) → (∀ b, b ≠ i.toNatClampNeg → R' k b = R k b) → (∀ a, a ≠ k → R' a = R a) → ml T d tb (mi_nk tb.2 (pc + 1, lv, s0, M')) Q) : ml T d tb (pc, lv, .int x :: .int i :: .ref (q k) :: s0, M) Q := by
  have hkx : rx k = true := by simp [rx, hk]
  have hc := hR.2.1 k _ hk
  refine ml_ast h1 (hR.row hk) hi rfl (kk _ (rset R k i.toNatClampNeg (nar x)) ⟨?_, fun a t ha => ?_, ?_, hR.2.2.2.1, hR.2.2.2.2.1, fun a ha => ?_⟩ (by simp [rset]) (fun b hb => by simp [rset, hb]) (fun a ha => by simp [rset, ha]))
  · show va_up M.1 (q k) _ m0 = _
    rw [va_up, if_neg]
    · exact hR.1
    · intro e
      rw [← e, hR.1] at hc
      cases hc
  · show va_up M.1 (q k) _ (q a) = _
    by_cases h : a = k
    · subst h
      rw [hk] at ha
      cases ha
      rw [va_up, if_pos rfl]
      congr 4
      funext b
      by_cases hb : b = i.toNatClampNeg
      · simp [va_up, rset, hb]
      · simp [va_up, rset, hb]
    · rw [va_up, if_neg]
      · rw [hR.2.1 a t ha]
        simp [rset, h]
      · intro e
        exact h (hR.2.2.2.1 a k (by simp [rx, ha]) hkx e)
  · show va_up M.1 (q k) _ (q 62) = _
    rw [va_up, if_neg]
    · exact hR.2.2.1
    · intro e
      have := hR.2.2.2.1 62 k rfl hkx e
      subst this
      cases hk
  · obtain ⟨f, h0⟩ := hR.2.2.2.2.2 a ha
    refine ⟨f, ?_⟩
    show va_up M.1 (q k) _ (g.2.1 a) = _
    rw [va_up, if_neg]
    · exact h0
    · intro e
      rw [e, hc] at h0
      cases h0
end MIM
