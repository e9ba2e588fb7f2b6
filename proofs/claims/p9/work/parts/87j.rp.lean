/-! partial runs over the reference's heap (my own text) -/
section RPA
variable {g : xe_G} {m0 : Nat} {q : Nat → Nat} {z : Nat × Nat} {I : rI} {R : rR} {M : mi_H} {T : Nat → Option (Nat × mi_B)} {k pc : Nat} {tb : mi_B} {lv : List (Nat × Value)} {s0 : List Value} {S' : mi_S} {Q : Option Value → mi_H → Prop}
theorem RS.put {j : Nat} {x : Int32} (hR : RS g m0 q z I R M) (hj : rx j = false) : RS g m0 q z (iset I j x) R (va_up M.1 m0 (some (.inr (12, va_up (rfld q I) j (some (.int x))))), M.2) := by
  refine ⟨?_, fun k t hk => ?_, ?_, hR.2.2.2.1, hR.2.2.2.2.1, fun k hk => ?_⟩
  · show va_up M.1 m0 _ m0 = _
    rw [va_up, if_pos rfl]
    congr 3
    funext k
    unfold rfld
    by_cases h : k = j
    · subst h
      simp [va_up, hj, iset]
    · simp [va_up, h, iset]
  · have h0 := hR.2.1 k t hk
    show va_up M.1 m0 _ (q k) = _
    rw [va_up, if_neg]
    · exact h0
    · intro e
      rw [e, hR.1] at h0
      cases h0
  · have h0 := hR.2.2.1
    show va_up M.1 m0 _ (q 62) = _
    rw [va_up, if_neg]
    · exact h0
    · intro e
      rw [e, hR.1] at h0
      cases h0
  · obtain ⟨f, h0⟩ := hR.2.2.2.2.2 k hk
    refine ⟨f, ?_⟩
    show va_up M.1 m0 _ (g.2.1 k) = _
    rw [va_up, if_neg]
    · exact h0
    · intro e
      rw [e, hR.1] at h0
      have h2 := congrArg (fun o => match o with | some (Sum.inr p) => p.1 | _ => 0) h0
      simp only at h2
      omega
theorem RS.st {k n i : Nat} {ty : FieldType} {y : Int32} (hR : RS g m0 q z I R M) (hk : rt k = some (ty, n)) : RS g m0 q z I (rset R k i y) (va_up M.1 (q k) (some (.inl (ty, n, va_up (fun i => (R k i).map Value.int) i (some (.int y))))), M.2) := by
  have hkx : rx k = true := by simp [rx, hk]
  have hc := hR.2.1 k _ hk
  refine ⟨?_, fun a t ha => ?_, ?_, hR.2.2.2.1, hR.2.2.2.2.1, fun a ha => ?_⟩
  · show va_up M.1 (q k) _ m0 = _
    rw [va_up, if_neg]
    · exact hR.1
    · intro e
      rw [← e, hR.1] at hc
      cases hc
  · show va_up M.1 (q k) _ (q a) = _
    by_cases h : a = k
    · subst h
      rw [hk] at ha
      cases ha
      rw [va_up, if_pos rfl]
      congr 4
      funext b
      by_cases hb : b = i
      · simp [va_up, rset, hb]
      · simp [va_up, rset, hb]
    · rw [va_up, if_neg]
      · rw [hR.2.1 a t ha]
        simp [rset, h]
      · intro e
        exact h (hR.2.2.2.1 a k (by simp [rx, ha]) hkx e)
  · show va_up M.1 (q k) _ (q 62) = _
    rw [va_up, if_neg]
    · exact hR.2.2.1
    · intro e
      have := hR.2.2.2.1 62 k rfl hkx e
      subst this
      cases hk
  · obtain ⟨f, h0⟩ := hR.2.2.2.2.2 a ha
    refine ⟨f, ?_⟩
    show va_up M.1 (q k) _ (g.2.1 a) = _
    rw [va_up, if_neg]
    · exact h0
    · intro e
      rw [e, hc] at h0
      cases h0
theorem pr_int {j : Nat} {x : Int32} (h1 : tb.1 pc = some (.inl (o_get 12 j))) (hR : RS g m0 q z I R M) (hj : rx j = false) (hi : I j = some x) (e1 : mi_nk tb.2 (pc + 3, lv, .int x :: s0, M) = S') (kk : pl T k tb S' Q) : pl T k tb (pc, lv, .ref m0 :: s0, M) Q := by
  subst e1
  exact pl_get h1 (by unfold mi_gf; rw [hR.1]; simp [rfld, hj, hi]) kk
theorem pr_ref {j : Nat} (h1 : tb.1 pc = some (.inl (o_get 12 j))) (hR : RS g m0 q z I R M) (hj : rx j = true) (e1 : mi_nk tb.2 (pc + 3, lv, .ref (q j) :: s0, M) = S') (kk : pl T k tb S' Q) : pl T k tb (pc, lv, .ref m0 :: s0, M) Q := by
  subst e1
  exact pl_get h1 (by unfold mi_gf; rw [hR.1]; simp [rfld, hj]) kk
theorem pr_len {a n : Nat} {ty : FieldType} (h1 : tb.1 pc = some (.inl (o_alen ty))) (hR : RS g m0 q z I R M) (hk : rt a = some (ty, n)) (e1 : mi_nk tb.2 (pc + 1, lv, .int (nI n) :: s0, M) = S') (kk : pl T k tb S' Q) : pl T k tb (pc, lv, .ref (q a) :: s0, M) Q := by
  subst e1
  exact pl_is h1 (S' := (pc + 1, lv, .int (nI n) :: s0, M)) (by simp only [o_alen, hR.row hk]; rfl) kk
/-- a row's element, whatever it is -/
theorem pr_ldu {a n : Nat} {ty : FieldType} {i : Int32} (h1 : tb.1 pc = some (.inl (o_ald ty))) (hR : RS g m0 q z I R M) (hk : rt a = some (ty, n)) (kk : ∀ y, ¬ i < 0 → i.toNatClampNeg < n → R a i.toNatClampNeg = some y → pl T k tb (mi_nk tb.2 (pc + 1, lv, .int y :: s0, M)) Q) : pl T k tb (pc, lv, .int i :: .ref (q a) :: s0, M) Q := by
  refine pl_st h1 (fun S1 h => ?_)
  unfold o_ald at h
  simp only [hR.row hk] at h
  split at h
  · cases h
  · rename_i hin
    cases hy : R a i.toNatClampNeg with
    | none =>
      rw [hy] at h
      cases h
    | some y =>
      rw [hy] at h
      cases h
      exact kk y (fun h9 => hin (Or.inl h9)) (Nat.not_le.mp (fun h9 => hin (Or.inr h9))) hy
/-- a row's element that is known -/
theorem pr_ld {a n j : Nat} {ty : FieldType} {y : Int32} (h1 : tb.1 pc = some (.inl (o_ald ty))) (hR : RS g m0 q z I R M) (hk : rt a = some (ty, n)) (hj : j < 1073741824) (hv : j < n → R a j = some y) (e1 : mi_nk tb.2 (pc + 1, lv, .int y :: s0, M) = S') (kk : j < n → pl T k tb S' Q) : pl T k tb (pc, lv, .int (nI j) :: .ref (q a) :: s0, M) Q := by
  subst e1
  refine pr_ldu h1 hR hk (fun y' h0 h2 h3 => ?_)
  rw [nI_toNat hj] at h2 h3
  rw [hv h2] at h3
  cases h3
  exact kk h2
theorem pr_put {j : Nat} {x : Int32} (h1 : tb.1 pc = some (.inl (o_put 12 j .int))) (hR : RS g m0 q z I R M) (hj : rx j = false) (kk : ∀ M' I', RS g m0 q z I' R M' → I' j = some x → (∀ k, k ≠ j → I' k = I k) → pl T k tb (mi_nk tb.2 (pc + 3, lv, s0, M')) Q) : pl T k tb (pc, lv, .int x :: .ref m0 :: s0, M) Q := by
  refine pl_st h1 (fun S1 hS => ?_)
  unfold o_put at hS
  simp only [hR.1] at hS
  split at hS
  · cases hS
    exact kk _ _ (hR.put hj) (by simp [iset]) (fun k hk => by simp [iset, hk])
  · cases hS
theorem pr_st {a n j : Nat} {ty : FieldType} {nar : Int32 → Int32} {x : Int32} (h1 : tb.1 pc = some (.inl (o_ast ty nar))) (hR : RS g m0 q z I R M) (hk : rt a = some (ty, n)) (hj : j < 1073741824) (kk : ∀ M' R', j < n → RS g m0 q z I R' M' → R' = rset R a j (nar x) → pl T k tb (mi_nk tb.2 (pc + 1, lv, s0, M')) Q) : pl T k tb (pc, lv, .int x :: .int (nI j) :: .ref (q a) :: s0, M) Q := by
  refine pl_st h1 (fun S1 hS => ?_)
  unfold o_ast at hS
  simp only [hR.row hk] at hS
  split at hS
  · cases hS
  · rename_i hin
    cases hS
    rw [nI_toNat hj] at hin ⊢
    exact kk _ _ (Nat.not_le.mp (fun h9 => hin (Or.inr h9))) (hR.st hk) rfl
theorem pl_top {x y : Int32} (h : x = y) (kk : pl T k tb (pc, lv, .int y :: s0, M) Q) : pl T k tb (pc, lv, .int x :: s0, M) Q := by
  rw [h]
  exact kk
theorem rset_ne {R : rR} {a b j : Nat} {x : Int32} (h : ¬ b = a) : rset R a j x b = R b := by
  funext i
  simp [rset, h]
theorem rset_at {R : rR} {a j : Nat} {x : Int32} : rset R a j x a j = some x := by simp [rset]
theorem rset_el {R : rR} {a i j : Nat} {x : Int32} (h : ¬ i = j) : rset R a j x a i = R a i := by simp [rset, h]
theorem eqR.st {W : List Nat} {R R1 R2 : rR} {a j : Nat} {x : Int32} (h : eqR W R R1) (h' : R2 = rset R1 a j x) (hs : a ∈ W) : eqR W R R2 := fun k hk => by
  rw [h', rset_ne (a := a) (b := k) (fun e => hk (by rw [e]; exact hs))]
  exact h k hk
theorem rRx {R R' : rR} {a j : Nat} {x : Int32} {L : List Nat} (f : R' = rset R a j x) (h : a ∉ L) : ∀ k, k ∈ L → R' k = R k := fun k hk => by
  rw [f, rset_ne (a := a) (b := k) (fun e => h (by rw [← e]; exact hk))]
/-- the reference's literals -/
theorem pr_slen {lk L : Nat} (h1 : tb.1 pc = some (.inl o_slength)) (hR : RS g m0 q z I R M) (hl : rlk lk) (hL : (xe_lt lk).2.2.2.length = L) (e1 : mi_nk tb.2 (pc + 3, lv, .int (nI L) :: s0, M) = S') (kk : pl T k tb S' Q) : pl T k tb (pc, lv, .ref (g.2.1 lk) :: s0, M) Q := by
  obtain ⟨f, h0⟩ := hR.2.2.2.2.2 lk hl
  exact ps_slen h1 h0 hL e1 kk
theorem pr_schar {lk j : Nat} (h1 : tb.1 pc = some (.inl o_scharAt)) (hR : RS g m0 q z I R M) (hl : rlk lk) (hj : j < 1073741824) (e1 : mi_nk tb.2 (pc + 3, lv, .int (nI ((ltx lk).getD j 0)) :: s0, M) = S') (kk : pl T k tb S' Q) : pl T k tb (pc, lv, .int (nI j) :: .ref (g.2.1 lk) :: s0, M) Q := by
  obtain ⟨f, h0⟩ := hR.2.2.2.2.2 lk hl
  exact ps_schar h1 h0 ⟨hl.2, rfl⟩ hj e1 kk
end RPA
section RPB
/-- bytes of the file, as numbers -/
theorem f1_nI {f : Nat → Int32} {p : Nat} (hp : p < 1073741824) : f1 f (nI p) = nI (by1 f p) := by
  unfold f1
  rw [nI_toNat hp]
  exact by1_eq f p
theorem f2_nI {f : Nat → Int32} {p : Nat} (hp : p < 1000000) : f2 f (nI p) = nI (by2 f p) := by
  unfold f2
  rw [nI_plus (j := 1) rfl (by omega), f1_nI (by omega), f1_nI (by omega)]
  have := by1_lt f p
  exact nI_cat (x := by1 f p) (y := by1 f (p + 1)) (s := 8) (by decide) (by omega) (by1_lt f (p + 1))
def nL (k : Nat) : Int64 := Int64.ofNat k
theorem nL_val {k : Nat} (h : k < 4611686018427387904) : (nL k).toInt = k := Int64.toInt_ofNat_of_lt (by omega)
theorem i2l_nL {p : Nat} (h : p < 1073741824) : Int32.toInt64 (nI p) = nL p := Int64.toInt_inj.mp (by rw [Int32.toInt_toInt64, nI_val h, nL_val (by omega)])
theorem l2i_nL {p : Nat} (h : p < 1073741824) : Int64.toInt32 (nL p) = nI p := Int32.toInt_inj.mp (by
  rw [i_of (by rw [nL_val (by omega)]; omega) (by rw [nL_val (by omega)]; omega), nL_val (by omega), nI_val h])
theorem nL_add {p k : Nat} {x : Int64} (hx : x = nL k) (h : p + k < 4611686018427387904) : nL p + x = nL (p + k) := by
  subst hx
  apply Int64.toInt_inj.mp
  rw [l_add (by rw [nL_val (by omega), nL_val (by omega)]; omega) (by rw [nL_val (by omega), nL_val (by omega)]; omega), nL_val (by omega), nL_val (by omega), nL_val (by omega)]
  omega
theorem f4_nL {f : Nat → Int32} {p : Nat} (hp : p < 900000) : f4 f (nI p) = nL (by4 f p) := by
  apply Int64.toInt_inj.mp
  have h1 := by2_lt f p
  have h2 := by2_lt f (p + 2)
  rw [f4_val, nI_plus (j := 2) rfl (by omega), f2_nI (by omega), f2_nI (by omega), nI_val (by omega), nI_val (by omega), nL_val (by unfold by4; omega)]
  unfold by4
  omega
variable {p k : Nat} {x y : Int64}
theorem cL (hx : x = nL p) (hy : y = nL k) (hp : p < 4611686018427387904) (hk : k < 4611686018427387904) : lg_cmp x y = if k < p then 1 else if p = k then 0 else -1 := by
  subst hx
  subst hy
  have e1 : (nL k < nL p) ↔ k < p := by
    rw [Int64.lt_iff_toInt_lt, nL_val hp, nL_val hk]
    omega
  have e2 : (nL p = nL k) ↔ p = k := by
    rw [← Int64.toInt_inj, nL_val hp, nL_val hk]
    omega
  unfold lg_cmp
  simp only [e1, e2]
theorem cL_3 (hx : x = nL p) (hy : y = nL k) (hp : p < 4611686018427387904) (hk : k < 4611686018427387904) : (k < p ∧ lg_cmp x y = 1) ∨ (p = k ∧ lg_cmp x y = 0) ∨ (p < k ∧ lg_cmp x y = -1) := by
  rw [cL hx hy hp hk]
  by_cases h1 : k < p
  · exact Or.inl ⟨h1, if_pos h1⟩
  · by_cases h2 : p = k
    · exact Or.inr (Or.inl ⟨h2, by rw [if_neg h1, if_pos h2]⟩)
    · exact Or.inr (Or.inr ⟨by omega, by rw [if_neg h1, if_neg h2]⟩)
theorem cL_le (hx : x = nL p) (hy : y = nL k) (hp : p < 4611686018427387904) (hk : k < 4611686018427387904) : lg_cmp x y ≤ 0 ↔ p ≤ k := by
  rcases cL_3 hx hy hp hk with ⟨h, e⟩ | ⟨h, e⟩ | ⟨h, e⟩ <;> rw [e]
  · exact ⟨fun h9 => absurd h9 (by decide), fun h9 => by omega⟩
  · exact ⟨fun _ => by omega, fun _ => by decide⟩
  · exact ⟨fun _ => by omega, fun _ => by decide⟩
theorem cL_gt (hx : x = nL p) (hy : y = nL k) (hp : p < 4611686018427387904) (hk : k < 4611686018427387904) : 0 < lg_cmp x y ↔ k < p := by
  rcases cL_3 hx hy hp hk with ⟨h, e⟩ | ⟨h, e⟩ | ⟨h, e⟩ <;> rw [e]
  · exact ⟨fun _ => h, fun _ => by decide⟩
  · exact ⟨fun h9 => absurd h9 (by decide), fun h9 => by omega⟩
  · exact ⟨fun h9 => absurd h9 (by decide), fun h9 => by omega⟩
theorem cL_ge (hx : x = nL p) (hy : y = nL k) (hp : p < 4611686018427387904) (hk : k < 4611686018427387904) : 0 ≤ lg_cmp x y ↔ k ≤ p := by
  rcases cL_3 hx hy hp hk with ⟨h, e⟩ | ⟨h, e⟩ | ⟨h, e⟩ <;> rw [e]
  · exact ⟨fun _ => by omega, fun _ => by decide⟩
  · exact ⟨fun _ => by omega, fun _ => by decide⟩
  · exact ⟨fun h9 => absurd h9 (by decide), fun h9 => by omega⟩
theorem cL_lt (hx : x = nL p) (hy : y = nL k) (hp : p < 4611686018427387904) (hk : k < 4611686018427387904) : lg_cmp x y < 0 ↔ p < k := by
  rcases cL_3 hx hy hp hk with ⟨h, e⟩ | ⟨h, e⟩ | ⟨h, e⟩ <;> rw [e]
  · exact ⟨fun h9 => absurd h9 (by decide), fun h9 => by omega⟩
  · exact ⟨fun h9 => absurd h9 (by decide), fun h9 => by omega⟩
  · exact ⟨fun _ => h, fun _ => by decide⟩
theorem cL_eq (hx : x = nL p) (hy : y = nL k) (hp : p < 4611686018427387904) (hk : k < 4611686018427387904) : lg_cmp x y = 0 ↔ p = k := by
  rcases cL_3 hx hy hp hk with ⟨h, e⟩ | ⟨h, e⟩ | ⟨h, e⟩ <;> rw [e]
  · exact ⟨fun h9 => absurd h9 (by decide), fun h9 => by omega⟩
  · exact ⟨fun _ => h, fun _ => by decide⟩
  · exact ⟨fun h9 => absurd h9 (by decide), fun h9 => by omega⟩
theorem cL_ne (hx : x = nL p) (hy : y = nL k) (hp : p < 4611686018427387904) (hk : k < 4611686018427387904) : ¬ lg_cmp x y = 0 ↔ ¬ p = k := not_congr (cL_eq hx hy hp hk)
end RPB
