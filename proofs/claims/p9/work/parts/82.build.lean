/-! the reference: its rows are laid one behind another (my own text) -/
section MIB4
theorem mi_loop_more {tb : mi_B} {c1 c2 : Nat → List Value → mi_H → Option mi_R} (hc : ∀ y a M r, c1 y a M = some r → c2 y a M = some r) : ∀ (n : Nat) (S : mi_S) (r : mi_R), mi_loop tb c1 n S = some r → mi_loop tb c2 (n + 1) S = some r := by
  intro n
  induction n with
  | zero => intro S r h; cases h
  | succ n ih =>
    intro S r h
    rw [mi_loop] at h ⊢
    split at h
    · split at h
      · exact ih _ _ h
      · cases h
    · split at h
      · split at h
        · rename_i r9 h9
          rw [hc _ _ _ _ h9]
          exact ih _ _ h
        · cases h
      · cases h
    · exact h
    · cases h
theorem mi_run_n {T : Nat → Option (Nat × mi_B)} {n : Nat} : ∀ (d y : Nat) (a : List Value) (M : mi_H) (r : mi_R), mi_run T n d y a M = some r → mi_run T (n + 1) d y a M = some r := by
  intro d
  induction d with
  | zero => intro y a M r h; cases h
  | succ d ih =>
    intro y a M r h
    rw [mi_run] at h ⊢
    split at h
    · cases h
    · split at h
      · exact mi_loop_more (fun y a M r h => ih y a M r h) _ _ _ h
      · cases h
theorem mi_run_le {T : Nat → Option (Nat × mi_B)} {n n' d y : Nat} {a : List Value} {M : mi_H} {r : mi_R} (h : n ≤ n') (h1 : mi_run T n d y a M = some r) : mi_run T n' d y a M = some r := by
  induction h with
  | refl => exact h1
  | step _ ih => exact mi_run_n d y a M r ih
theorem mt.up {g : xe_G} {d y : Nat} {a : List Value} {M M2 : mi_H} {Q : Option Value → mi_H → Prop} (hy : y ∈ mS) (h : mt (mT g) d y a M Q) (hl : hle M M2) : mt (mT g) d y a M2 (fun v M' => ∃ M0, Q v M0 ∧ hle M0 M' ∧ M'.2 = M2.2) := by
  obtain ⟨r, ⟨n0, h1⟩, h2⟩ := h
  obtain ⟨M3, b1, b2, b3⟩ := (run_mn (mz_all (g := g)) d y a M r hy (h1 n0 (Nat.le_refl n0))).2 M2 hl
  refine ⟨(r.1, M3), ⟨n0, fun n hn => ?_⟩, r.2, h2, b2, b3⟩
  obtain ⟨M4, c1, c2, c3⟩ := (run_mn (mz_all (g := g)) d y a M r hy (h1 n hn)).2 M2 hl
  rw [c1]
  have e : ∀ M5, mi_run (mT g) n d y a M2 = some (r.1, M5) → M5 = M3 := by
    intro M5 h5
    have q := mi_run_le hn b1
    rw [h5] at q
    cases q
    rfl
  rw [e M4 c1]
def BS (m0 a0 : Nat) (C : Nat → mi_C) (L : List Nat) (I : rI) (M0 M : mi_H) (s : Nat) : Prop :=
  (∃ F, M.1 m0 = some (.inr (12, F)) ∧ (∀ p k, L[p]? = some k → F k = some (.ref (a0 + p))) ∧ ∀ k, rx k = false → F k = (I k).map Value.int) ∧
  (∀ p k, L[p]? = some k → M.1 (a0 + p) = some (C k)) ∧ (∀ a, a < a0 → a ≠ m0 → M.1 a = M0.1 a) ∧ M.2 = (a0 + L.length, s) ∧ m0 < a0
variable {m0 a0 : Nat} {C : Nat → mi_C} {L : List Nat} {I : rI} {M0 M : mi_H} {s : Nat}
variable {T : Nat → Option (Nat × mi_B)} {d pc : Nat} {tb : mi_B} {lv : List (Nat × Value)} {st : List Value} {Q : Option Value → mi_H → Prop}
theorem rb_put {j w : Nat} {ty : FieldType} {c : mi_C} (hB : BS m0 a0 C L I M0 M s) (hc : C j = c) (hj : j ∉ L) (hx : rx j = true) (h1 : tb.1 pc = some (.inl (o_put 12 j ty))) (hf : mi_fit ty (.ref M.2.1) = true) (kk : ∀ M', BS m0 a0 C (L ++ [j]) I M0 M' (s + w) → ml T d tb (mi_nk tb.2 (pc + 3, lv, st, M')) Q) : ml T d tb (pc, lv, .ref M.2.1 :: .ref m0 :: st, (va_up M.1 M.2.1 (some c), M.2.1 + 1, M.2.2 + w)) Q := by
  obtain ⟨⟨F, hF, hF1, hF2⟩, hr, ho, hz, hm⟩ := hB
  have e1 : M.2.1 = a0 + L.length := congrArg Prod.fst hz
  have e2 : M.2.2 = s := congrArg Prod.snd hz
  have hne : m0 ≠ M.2.1 := by omega
  refine ml_put (f := F) h1 (by show va_up M.1 M.2.1 _ m0 = _; rw [va_up, if_neg hne]; exact hF) hf rfl (kk _ ⟨⟨va_up F j (some (.ref M.2.1)), ?_, fun p k hp => ?_, fun k hk => ?_⟩, fun p k hp => ?_, fun a ha hn => ?_, ?_, hm⟩)
  · show va_up _ m0 _ m0 = _
    rw [va_up, if_pos rfl]
  · by_cases e : p < L.length
    · rw [List.getElem?_append_left e] at hp
      have hk : k ≠ j := fun q => hj (q ▸ List.mem_of_getElem? hp)
      rw [va_up, if_neg hk]
      exact hF1 p k hp
    · rw [List.getElem?_append_right (Nat.le_of_not_lt e)] at hp
      cases h9 : p - L.length with
      | zero =>
        rw [h9] at hp
        have hk : j = k := by simpa using hp
        subst hk
        rw [va_up, if_pos rfl, e1, show p = L.length from Nat.le_antisymm (Nat.le_of_sub_eq_zero h9) (Nat.le_of_not_lt e)]
      | succ i => rw [h9] at hp; simp at hp
  · have hk2 : k ≠ j := fun q => by rw [q, hx] at hk; cases hk
    rw [va_up, if_neg hk2]
    exact hF2 k hk
  · have hap : a0 + p ≠ m0 := by omega
    show va_up (va_up M.1 M.2.1 (some c)) m0 _ (a0 + p) = _
    rw [va_up, if_neg hap]
    by_cases e : p < L.length
    · rw [List.getElem?_append_left e] at hp
      rw [va_up, if_neg (by omega)]
      exact hr p k hp
    · rw [List.getElem?_append_right (Nat.le_of_not_lt e)] at hp
      cases h9 : p - L.length with
      | zero =>
        rw [h9] at hp
        have hk : j = k := by simpa using hp
        subst hk
        rw [va_up, if_pos (by rw [e1, show p = L.length from Nat.le_antisymm (Nat.le_of_sub_eq_zero h9) (Nat.le_of_not_lt e)]), hc]
      | succ i => rw [h9] at hp; simp at hp
  · show va_up (va_up M.1 M.2.1 (some c)) m0 _ a = _
    rw [va_up, if_neg hn, va_up, if_neg (by omega)]
    exact ho a ha hn
  · show (M.2.1 + 1, M.2.2 + w) = _
    rw [e1, e2, List.length_append]
    rfl
theorem rb_int {j : Nat} {ty : FieldType} {x : Int32} (hB : BS m0 a0 C L I M0 M s) (hj : j ∉ L) (hx : rx j = false) (h1 : tb.1 pc = some (.inl (o_put 12 j ty))) (hf : mi_fit ty (.int x) = true) (kk : ∀ M', BS m0 a0 C L (iset I j x) M0 M' s → ml T d tb (mi_nk tb.2 (pc + 3, lv, st, M')) Q) : ml T d tb (pc, lv, .int x :: .ref m0 :: st, M) Q := by
  obtain ⟨⟨F, hF, hF1, hF2⟩, hr, ho, hz, hm⟩ := hB
  refine ml_put (f := F) h1 hF hf rfl (kk _ ⟨⟨va_up F j (some (.int x)), ?_, fun p k hp => ?_, fun k hk => ?_⟩, fun p k hp => ?_, fun a ha hn => ?_, hz, hm⟩)
  · show va_up M.1 m0 _ m0 = _
    rw [va_up, if_pos rfl]
  · have hk : k ≠ j := fun q => hj (q ▸ List.mem_of_getElem? hp)
    rw [va_up, if_neg hk]
    exact hF1 p k hp
  · unfold iset
    by_cases e : k = j
    · rw [va_up, if_pos e, if_pos e]
      rfl
    · rw [va_up, if_neg e, if_neg e]
      exact hF2 k hk
  · show va_up M.1 m0 _ (a0 + p) = _
    rw [va_up, if_neg (by omega)]
    exact hr p k hp
  · show va_up M.1 m0 _ a = _
    rw [va_up, if_neg hn]
    exact ho a ha hn
theorem va_twice {f : Nat → Option mi_C} {a : Nat} {x y : Option mi_C} : va_up (va_up f a x) a y = va_up f a y := by
  funext b
  by_cases e : b = a
  · simp [va_up, e]
  · simp [va_up, e]
theorem rb_ast {i x : Int32} {n w : Nat} {cf : Nat → Option Value} (h1 : tb.1 pc = some (.inl (o_ast .int (fun x => x)))) (hi : ¬ (i < 0 ∨ n ≤ i.toNatClampNeg)) (kk : ml T d tb (mi_nk tb.2 (pc + 1, lv, st, (va_up M.1 M.2.1 (some (.inl (.int, n, va_up cf i.toNatClampNeg (some (.int x))))), M.2.1 + 1, M.2.2 + w))) Q) : ml T d tb (pc, lv, .int x :: .int i :: .ref M.2.1 :: st, (va_up M.1 M.2.1 (some (.inl (.int, n, cf))), M.2.1 + 1, M.2.2 + w)) Q := by
  refine ml_st h1 (S1 := (pc + 1, lv, st, (va_up M.1 M.2.1 (some (.inl (.int, n, va_up cf i.toNatClampNeg (some (.int x))))), M.2.1 + 1, M.2.2 + w))) ?_ rfl kk
  have hg : mi_ga (va_up M.1 M.2.1 (some (.inl (.int, n, cf))), M.2.1 + 1, M.2.2 + w) M.2.1 .int = some (n, cf) := by
    unfold mi_ga
    show (match va_up M.1 M.2.1 _ M.2.1 with | some (.inl o) => if o.1 = FieldType.int then some o.2 else none | _ => none) = _
    rw [va_up, if_pos rfl]
    rfl
  unfold o_ast
  dsimp only
  rw [hg]
  dsimp only
  rw [if_neg hi, va_twice]
theorem rb_aast {g : xe_G} {v lk : Nat} {i : Int32} {n w : Nat} {cf : Nat → Option Value} (hB : BS m0 a0 C L I M0 M s) (h1 : tb.1 pc = some (.inl (o_aast "java/lang/String"))) (hv : g.2.1 lk = v) (hva : v < a0) (hvm : v ≠ m0) (hl : ∃ f, M0.1 v = some (.inr (100 + lk, f))) (hi : ¬ (i < 0 ∨ n ≤ i.toNatClampNeg)) (kk : ml T d tb (mi_nk tb.2 (pc + 1, lv, st, (va_up M.1 M.2.1 (some (.inl (.object "java/lang/String", n, va_up cf i.toNatClampNeg (some (.ref v))))), M.2.1 + 1, M.2.2 + w))) Q) : ml T d tb (pc, lv, .ref v :: .int i :: .ref M.2.1 :: st, (va_up M.1 M.2.1 (some (.inl (.object "java/lang/String", n, cf))), M.2.1 + 1, M.2.2 + w)) Q := by
  obtain ⟨-, -, ho, hz, hm⟩ := hB
  have e1 : M.2.1 = a0 + L.length := congrArg Prod.fst hz
  obtain ⟨f, hf⟩ := hl
  refine ml_st h1 (S1 := (pc + 1, lv, st, (va_up M.1 M.2.1 (some (.inl (.object "java/lang/String", n, va_up cf i.toNatClampNeg (some (.ref v))))), M.2.1 + 1, M.2.2 + w))) ?_ rfl kk
  have hg : mi_ga (va_up M.1 M.2.1 (some (.inl (.object "java/lang/String", n, cf))), M.2.1 + 1, M.2.2 + w) M.2.1 (.object "java/lang/String") = some (n, cf) := by
    unfold mi_ga
    show (match va_up M.1 M.2.1 _ M.2.1 with | some (.inl o) => if o.1 = FieldType.object "java/lang/String" then some o.2 else none | _ => none) = _
    rw [va_up, if_pos rfl]
    simp
  have hk : mi_ok (va_up M.1 M.2.1 (some (.inl (.object "java/lang/String", n, cf))), M.2.1 + 1, M.2.2 + w) "java/lang/String" v = true := by
    unfold mi_ok
    have e : va_up M.1 M.2.1 (some (.inl (.object "java/lang/String", n, cf))) v = some (.inr (100 + lk, f)) := by
      rw [va_up, if_neg (by omega), ho v hva hvm]
      exact hf
    simp only [e]
    rw [if_neg (by omega)]
    simp
  unfold o_aast
  dsimp only
  rw [hg]
  dsimp only
  rw [if_neg hi, if_pos hk, va_twice]
end MIB4
