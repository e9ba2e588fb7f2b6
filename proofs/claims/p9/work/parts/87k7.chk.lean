/-! the pool as the reference checks it (my own text) -/
section PKA
variable {f : Nat → Int32} {n : Nat} {E : List (Nat × Nat)} {k : Nat}
/-- entries lie in the file -/
def EP (f : Nat → Int32) (n : Nat) (E : List (Nat × Nat)) : Prop := ∀ j p, lk E j = some p → p + 1 ≤ n ∧ (by1 f p = 15 → p + 4 ≤ n) ∧ (7 ≤ by1 f p → p + 3 ≤ n) ∧ (7 ≤ by1 f p ∧ ¬ (by1 f p = 15 ∨ by1 f p = 7 ∨ by1 f p = 8 ∨ by1 f p = 16 ∨ by1 f p = 19 ∨ by1 f p = 20) → p + 5 ≤ n) ∧ ¬ by1 f p = 0
theorem tg_lk (h : ¬ tg f E k = 0) : ∃ p, lk E k = some p ∧ by1 f p = tg f E k := by
  unfold tg at h ⊢
  cases hk : lk E k with
  | none => rw [hk] at h; exact absurd rfl h
  | some p => exact ⟨p, rfl, rfl⟩
theorem tg_of {p : Nat} (h : lk E k = some p) : tg f E k = by1 f p := by
  unfold tg
  rw [h]
theorem tg_none (h : lk E k = none) : tg f E k = 0 := by
  unfold tg
  rw [h]
theorem fi_1 {p : Nat} (h : lk E k = some p) (h7 : 7 ≤ by1 f p ∧ ¬ by1 f p = 15) : fi f E k = by2 f (p + 1) := by
  unfold fi
  rw [h]
  show ixa f p = _
  unfold ixa
  rw [if_neg (by omega), if_neg h7.2]
theorem fi_15 {p : Nat} (h : lk E k = some p) (h7 : by1 f p = 15) : fi f E k = by1 f (p + 1) := by
  unfold fi
  rw [h]
  show ixa f p = _
  unfold ixa
  rw [if_neg (by omega), if_pos h7]
theorem se_15 {p : Nat} (h : lk E k = some p) (h7 : by1 f p = 15) : se f E k = by2 f (p + 2) := by
  unfold se
  rw [h]
  show ixb f p = _
  unfold ixb
  rw [if_neg (by omega), if_pos h7]
theorem se_3 {p : Nat} (h : lk E k = some p) (h7 : 7 ≤ by1 f p ∧ ¬ (by1 f p = 15 ∨ by1 f p = 7 ∨ by1 f p = 8 ∨ by1 f p = 16 ∨ by1 f p = 19 ∨ by1 f p = 20)) : se f E k = by2 f (p + 3) := by
  unfold se
  rw [h]
  show ixb f p = _
  unfold ixb
  rw [if_neg (by omega), if_neg (by omega), if_neg (by omega)]
theorem tx_1 {p : Nat} (h : lk E k = some p) (h1 : by1 f p = 1) : tX f n E k = txo (s_utf f n (p + 1)) := by
  unfold tX
  rw [h]
  show (if by1 f p = 1 then _ else _) = _
  rw [if_pos h1]
theorem RPV.at {tx : List (List Nat)} {N p : Nat} {I : rI} {R : rR} (h : RPV f n E tx N I R) (hk : lk E k = some p) : 1 ≤ k ∧ k < N ∧ R 21 k = some (nI p) := by
  have h1 := h.1 _ (lk_in hk)
  have h2 := h.2.1 k h1.2
  rw [hk] at h2
  exact ⟨h1.1, h1.2, h2⟩
theorem RPV.no {tx : List (List Nat)} {N : Nat} {I : rI} {R : rR} (h : RPV f n E tx N I R) (hk : lk E k = none) (hN : k < N) : R 21 k = some (-1) := by
  have h2 := h.2.1 k hN
  rw [hk] at h2
  exact h2
theorem RPV.sy {tx : List (List Nat)} {N : Nat} {I : rI} {R : rR} (h : RPV f n E tx N I R) (ht : tg f E k = 1) : k < N ∧ ∃ s, R 22 k = some (nI s) ∧ s < tx.length ∧ tx.getD s [] = tX f n E k := by
  obtain ⟨p, hp, e⟩ := tg_lk (f := f) (E := E) (k := k) (by omega)
  obtain ⟨s, a, b, c⟩ := h.2.2 k p hp (by omega)
  exact ⟨(h.at hp).2.1, s, a, b, by rw [tx_1 hp (by omega)]; exact c⟩
theorem sym_eq {tx : List (List Nat)} {cN : Nat} {A : Nat → Nat} {I : rI} {R : rR} {s t : Nat} {l m : List Nat} (h : SYT tx cN A I R) (hs : s < tx.length ∧ tx.getD s [] = l) (ht : t < tx.length ∧ tx.getD t [] = m) : s = t ↔ ¬ eqN l m = 0 := by
  unfold eqN
  constructor
  · intro e
    rw [if_pos (by rw [← hs.2, ← ht.2, e])]
    decide
  · intro h9
    by_cases e : l = m
    · exact h.2.2.2.2 s t hs.1 ht.1 (by rw [hs.2, ht.2, e])
    · rw [if_neg e] at h9
      exact absurd rfl h9
theorem lt_eq : ltx 25 = ltx 14 ∧ ltx 25 = ltx 12 ∧ ltx 26 = ltx 13 ∧ ltx 27 = ltx 11 := by decide +kernel
theorem mem_of (h : ¬ memN f E k = 0) : tg f E (fi f E k) = 7 ∧ tg f E (fi f E (fi f E k)) = 1 ∧ ¬ pairN f E (se f E k) = 0 := by
  unfold memN at h
  split at h
  · rename_i h1
    exact h1
  · exact absurd rfl h
theorem pair_of (h : ¬ pairN f E k = 0) : tg f E k = 12 ∧ tg f E (fi f E k) = 1 ∧ tg f E (se f E k) = 1 := by
  unfold pairN at h
  split at h
  · rename_i h1
    exact h1
  · exact absurd rfl h
end PKA

theorem le1_unq0 (l : List Nat) : unq0 l < 2 := by unfold unq0; split <;> decide
def CP (f : Nat → Int32) (n : Nat) (E : List (Nat × Nat)) : Prop := ∀ k, tg f E k = 7 → tg f E (fi f E k) = 1 ∧ 0 < (tX f n E (fi f E k)).length
theorem lnk_7 {f : Nat → Int32} {E : List (Nat × Nat)} {k : Nat} : tg f E k = 7 → (lnkN f E k = 0 ↔ ¬ tg f E (fi f E k) = 1) := fun h => by
  unfold lnkN
  rw [if_pos (Or.inl h)]
  split <;> omega
theorem ism_9 {f : Nat → Int32} {E : List (Nat × Nat)} {k : Nat} : ismN f E k = 0 ↔ ¬ (9 ≤ tg f E k ∧ tg f E k ≤ 11) := by
  unfold ismN
  split <;> omega
theorem pair_9 {f : Nat → Int32} {E : List (Nat × Nat)} {k : Nat} : pairN f E k = 0 ↔ ¬ (tg f E k = 12 ∧ tg f E (fi f E k) = 1 ∧ tg f E (se f E k) = 1) := by
  unfold pairN
  split <;> omega
theorem mem_9 {f : Nat → Int32} {E : List (Nat × Nat)} {k : Nat} : memN f E k = 0 ↔ ¬ (tg f E (fi f E k) = 7 ∧ tg f E (fi f E (fi f E k)) = 1 ∧ ¬ pairN f E (se f E k) = 0) := by
  unfold memN
  split <;> omega
set_option maxHeartbeats 1000000 in
theorem rd_tagS {g : xe_G} {m0 : Nat} {q : Nat → Nat} {z : Nat × Nat} {I : rI} {R : rR} {M : mi_H} {n : Nat} {f : Nat → Int32} {tx : List (List Nat)} {cN : Nat} {A : Nat → Nat} {N mj : Nat} {E : List (Nat × Nat)} {k p : Nat} (hR : RS g m0 q z I R M) (hi51 : I 51 = some 0) (hi52 : I 52 = some (nI N)) (hi53 : I 53 = some (nI mj)) (hF : FK n f I R) (hY : SYT tx cN A I R) (hP : RPV f n E tx N I R) (hEP : EP f n E) (hN : N < 65536) (hmj : mj < 65536) (hk : lk E k = some p) : pt (mT g) 247 [.ref m0, .int (nI k)] M (fun v M' => (v = some (.int (nI (by1 f p))) ∧ M = M')) := by
  refine pt_in (b := mb_247 g) rfl (fun kf => ?_)
  show pl (mT g) kf (mb_247 g).2 (0, [(0, .ref m0), (1, .int (nI k))], [], M) _
  have hn := hF.1
  have ha := hP.at hk
  have hp := (hEP k p hk).1
  refine ps_st (S' := (1, [(0, .ref m0), (1, .int (nI k))], [.int (nI k)], M)) rfl rfl rfl ?_
  refine ps_if (S1 := (26, [], [], M)) (S2 := (4, [(0, .ref m0), (1, .int (nI k))], [], M)) rfl rfl rfl (fun c_1 => ?_) (fun c_1 => ?_)
  · have c_1 : (nI k) ≤ 0 := of_decide_eq_true c_1
    have n_1 : k ≤ 0 := (le_nI (p := k) (n := 0) (by omega) (by decide)).mp c_1
    refine ps_st (S' := (27, [], [.int 0], M)) rfl rfl rfl ?_
    refine ps_st (S' := (45, [], [.int 0], M)) rfl rfl rfl ?_
    exact ps_ret rfl rfl (⟨by exfalso; omega, rfl⟩)
  · have c_1 : ¬ ((nI k) ≤ 0) := of_decide_eq_false c_1
    have n_1 : ¬ (k ≤ 0) := fun h9 => c_1 ((le_nI (p := k) (n := 0) (by omega) (by decide)).mpr h9)
    refine ps_st (S' := (5, [(0, .ref m0), (1, .int (nI k))], [.int (nI k)], M)) rfl rfl rfl ?_
    refine ps_st (S' := (6, [(0, .ref m0), (1, .int (nI k))], [.ref m0, .int (nI k)], M)) rfl rfl rfl ?_
    refine pr_int (j := 52) (S' := (9, [(0, .ref m0), (1, .int (nI k))], [.int (nI N), .int (nI k)], M)) rfl hR rfl hi52 rfl ?_
    refine ps_if2 (S1 := (26, [], [], M)) (S2 := (12, [(0, .ref m0), (1, .int (nI k))], [], M)) rfl rfl rfl (fun c_9 => ?_) (fun c_9 => ?_)
    · have c_9 : (nI N) ≤ (nI k) := of_decide_eq_true c_9
      have n_9 : N ≤ k := (le_nI (p := N) (n := k) (by omega) (by omega)).mp c_9
      refine ps_st (S' := (27, [], [.int 0], M)) rfl rfl rfl ?_
      refine ps_st (S' := (45, [], [.int 0], M)) rfl rfl rfl ?_
      exact ps_ret rfl rfl (⟨by exfalso; omega, rfl⟩)
    · have c_9 : ¬ ((nI N) ≤ (nI k)) := of_decide_eq_false c_9
      have n_9 : ¬ (N ≤ k) := fun h9 => c_9 ((le_nI (p := N) (n := k) (by omega) (by omega)).mpr h9)
      refine ps_st (S' := (13, [(0, .ref m0), (1, .int (nI k))], [.ref m0], M)) rfl rfl rfl ?_
      refine pr_ref (j := 21) (S' := (16, [(0, .ref m0), (1, .int (nI k))], [.ref (q 21)], M)) rfl hR rfl rfl ?_
      refine ps_st (S' := (17, [(0, .ref m0), (1, .int (nI k))], [.ref m0, .ref (q 21)], M)) rfl rfl rfl ?_
      refine pr_int (j := 51) (S' := (20, [(0, .ref m0), (1, .int (nI k))], [.int 0, .ref (q 21)], M)) rfl hR rfl hi51 rfl ?_
      refine ps_st (S' := (21, [(0, .ref m0), (1, .int (nI k))], [.int (nI k), .int 0, .ref (q 21)], M)) rfl rfl rfl ?_
      refine ps_st (S' := (22, [(0, .ref m0), (1, .int (nI k))], [.int (0 + (nI k)), .ref (q 21)], M)) rfl rfl rfl ?_
      rw [show (0 : Int32) + (nI k) = (nI k) from Int32.zero_add _]
      show pl _ _ _ (_, [(0, .ref m0), (1, .int (nI k))], [.int (nI k), .ref (q 21)], M) _
      refine pr_ld (a := 21) (j := k) (y := (nI p)) (S' := (23, [(0, .ref m0), (1, .int (nI k))], [.int (nI p)], M)) rfl hR rfl (by omega) (fun _ => ha.2.2) rfl (fun i1_22 => ?_)
      refine ps_if (S1 := (30, [(0, .ref m0), (1, .int (nI k))], [], M)) (S2 := (26, [], [], M)) rfl rfl rfl (fun c_23 => ?_) (fun c_23 => ?_)
      rotate_left
      · exact absurd ((le_nI (p := 0) (n := p) (by decide) (by omega)).mpr (by omega)) (of_decide_eq_false c_23)
      refine ps_st (S' := (31, [(0, .ref m0), (1, .int (nI k))], [.ref m0], M)) rfl rfl rfl ?_
      refine ps_st (S' := (32, [(0, .ref m0), (1, .int (nI k))], [.ref m0, .ref m0], M)) rfl rfl rfl ?_
      refine pr_ref (j := 21) (S' := (35, [(0, .ref m0), (1, .int (nI k))], [.ref (q 21), .ref m0], M)) rfl hR rfl rfl ?_
      refine ps_st (S' := (36, [(0, .ref m0), (1, .int (nI k))], [.ref m0, .ref (q 21), .ref m0], M)) rfl rfl rfl ?_
      refine pr_int (j := 51) (S' := (39, [(0, .ref m0), (1, .int (nI k))], [.int 0, .ref (q 21), .ref m0], M)) rfl hR rfl hi51 rfl ?_
      refine ps_st (S' := (40, [(0, .ref m0), (1, .int (nI k))], [.int (nI k), .int 0, .ref (q 21), .ref m0], M)) rfl rfl rfl ?_
      refine ps_st (S' := (41, [(0, .ref m0), (1, .int (nI k))], [.int (0 + (nI k)), .ref (q 21), .ref m0], M)) rfl rfl rfl ?_
      rw [show (0 : Int32) + (nI k) = (nI k) from Int32.zero_add _]
      show pl _ _ _ (_, [(0, .ref m0), (1, .int (nI k))], [.int (nI k), .ref (q 21), .ref m0], M) _
      refine pr_ld (a := 21) (j := k) (y := (nI p)) (S' := (42, [(0, .ref m0), (1, .int (nI k))], [.int (nI p), .ref m0], M)) rfl hR rfl (by omega) (fun _ => ha.2.2) rfl (fun i1_41 => ?_)
      refine pl_call (a := [.ref m0, .int (nI p)]) (rest := []) rfl rfl rfl (rd_u1 (n := n) (f := f) (p := p) hR hF (by omega)) (fun v1 M2 q3 => ?_)
      obtain ⟨rfl, rfl⟩ := q3
      show pl _ _ _ (45, [], [.int (nI (by1 f p))], M) _
      have hu_42 := by1_lt f p
      exact ps_reti rfl (⟨rfl, rfl⟩)
set_option maxHeartbeats 1000000 in
theorem rd_tagN {g : xe_G} {m0 : Nat} {q : Nat → Nat} {z : Nat × Nat} {I : rI} {R : rR} {M : mi_H} {n : Nat} {f : Nat → Int32} {tx : List (List Nat)} {cN : Nat} {A : Nat → Nat} {N mj : Nat} {E : List (Nat × Nat)} {k : Nat} (hR : RS g m0 q z I R M) (hi51 : I 51 = some 0) (hi52 : I 52 = some (nI N)) (hi53 : I 53 = some (nI mj)) (hF : FK n f I R) (hY : SYT tx cN A I R) (hP : RPV f n E tx N I R) (hEP : EP f n E) (hN : N < 65536) (hmj : mj < 65536) (hk : lk E k = none) (hk2 : k < 65536) : pt (mT g) 247 [.ref m0, .int (nI k)] M (fun v M' => (v = some (.int (nI (0))) ∧ M = M')) := by
  refine pt_in (b := mb_247 g) rfl (fun kf => ?_)
  show pl (mT g) kf (mb_247 g).2 (0, [(0, .ref m0), (1, .int (nI k))], [], M) _
  have hn := hF.1
  refine ps_st (S' := (1, [(0, .ref m0), (1, .int (nI k))], [.int (nI k)], M)) rfl rfl rfl ?_
  refine ps_if (S1 := (26, [], [], M)) (S2 := (4, [(0, .ref m0), (1, .int (nI k))], [], M)) rfl rfl rfl (fun c_1 => ?_) (fun c_1 => ?_)
  · have c_1 : (nI k) ≤ 0 := of_decide_eq_true c_1
    have n_1 : k ≤ 0 := (le_nI (p := k) (n := 0) (by omega) (by decide)).mp c_1
    refine ps_st (S' := (27, [], [.int 0], M)) rfl rfl rfl ?_
    refine ps_st (S' := (45, [], [.int 0], M)) rfl rfl rfl ?_
    exact ps_ret rfl rfl (⟨rfl, rfl⟩)
  · have c_1 : ¬ ((nI k) ≤ 0) := of_decide_eq_false c_1
    have n_1 : ¬ (k ≤ 0) := fun h9 => c_1 ((le_nI (p := k) (n := 0) (by omega) (by decide)).mpr h9)
    refine ps_st (S' := (5, [(0, .ref m0), (1, .int (nI k))], [.int (nI k)], M)) rfl rfl rfl ?_
    refine ps_st (S' := (6, [(0, .ref m0), (1, .int (nI k))], [.ref m0, .int (nI k)], M)) rfl rfl rfl ?_
    refine pr_int (j := 52) (S' := (9, [(0, .ref m0), (1, .int (nI k))], [.int (nI N), .int (nI k)], M)) rfl hR rfl hi52 rfl ?_
    refine ps_if2 (S1 := (26, [], [], M)) (S2 := (12, [(0, .ref m0), (1, .int (nI k))], [], M)) rfl rfl rfl (fun c_9 => ?_) (fun c_9 => ?_)
    · have c_9 : (nI N) ≤ (nI k) := of_decide_eq_true c_9
      have n_9 : N ≤ k := (le_nI (p := N) (n := k) (by omega) (by omega)).mp c_9
      refine ps_st (S' := (27, [], [.int 0], M)) rfl rfl rfl ?_
      refine ps_st (S' := (45, [], [.int 0], M)) rfl rfl rfl ?_
      exact ps_ret rfl rfl (⟨rfl, rfl⟩)
    · have c_9 : ¬ ((nI N) ≤ (nI k)) := of_decide_eq_false c_9
      have n_9 : ¬ (N ≤ k) := fun h9 => c_9 ((le_nI (p := N) (n := k) (by omega) (by omega)).mpr h9)
      refine ps_st (S' := (13, [(0, .ref m0), (1, .int (nI k))], [.ref m0], M)) rfl rfl rfl ?_
      refine pr_ref (j := 21) (S' := (16, [(0, .ref m0), (1, .int (nI k))], [.ref (q 21)], M)) rfl hR rfl rfl ?_
      refine ps_st (S' := (17, [(0, .ref m0), (1, .int (nI k))], [.ref m0, .ref (q 21)], M)) rfl rfl rfl ?_
      refine pr_int (j := 51) (S' := (20, [(0, .ref m0), (1, .int (nI k))], [.int 0, .ref (q 21)], M)) rfl hR rfl hi51 rfl ?_
      refine ps_st (S' := (21, [(0, .ref m0), (1, .int (nI k))], [.int (nI k), .int 0, .ref (q 21)], M)) rfl rfl rfl ?_
      refine ps_st (S' := (22, [(0, .ref m0), (1, .int (nI k))], [.int (0 + (nI k)), .ref (q 21)], M)) rfl rfl rfl ?_
      rw [show (0 : Int32) + (nI k) = (nI k) from Int32.zero_add _]
      show pl _ _ _ (_, [(0, .ref m0), (1, .int (nI k))], [.int (nI k), .ref (q 21)], M) _
      refine pr_ld (a := 21) (j := k) (y := -1) (S' := (23, [(0, .ref m0), (1, .int (nI k))], [.int (-1)], M)) rfl hR rfl (by omega) (fun _ => hP.no hk (by omega)) rfl (fun i1_22 => ?_)
      refine ps_if (S1 := (30, [(0, .ref m0), (1, .int (nI k))], [], M)) (S2 := (26, [], [], M)) rfl rfl rfl (fun c_23 => ?_) (fun c_23 => ?_)
      · exact absurd (of_decide_eq_true c_23) (by decide)
      refine ps_st (S' := (27, [], [.int 0], M)) rfl rfl rfl ?_
      refine ps_st (S' := (45, [], [.int 0], M)) rfl rfl rfl ?_
      exact ps_ret rfl rfl (⟨rfl, rfl⟩)
theorem rd_tag {g : xe_G} {m0 : Nat} {q : Nat → Nat} {z : Nat × Nat} {I : rI} {R : rR} {M : mi_H} {n : Nat} {f : Nat → Int32} {tx : List (List Nat)} {cN : Nat} {A : Nat → Nat} {N mj : Nat} {E : List (Nat × Nat)} {k : Nat} (hR : RS g m0 q z I R M) (hi51 : I 51 = some 0) (hi52 : I 52 = some (nI N)) (hi53 : I 53 = some (nI mj)) (hF : FK n f I R) (hY : SYT tx cN A I R) (hP : RPV f n E tx N I R) (hEP : EP f n E) (hN : N < 65536) (hmj : mj < 65536) (hk : k < 65536) : pt (mT g) 247 [.ref m0, .int (nI k)] M (fun v M' => (v = some (.int (nI (tg f E k))) ∧ M = M')) := by
  cases h : lk E k with
  | none =>
    rw [tg_none h]
    exact rd_tagN hR hi51 hi52 hi53 hF hY hP hEP hN hmj h hk
  | some p =>
    rw [tg_of h]
    exact rd_tagS hR hi51 hi52 hi53 hF hY hP hEP hN hmj h
set_option maxHeartbeats 1000000 in
theorem rd_idx1 {g : xe_G} {m0 : Nat} {q : Nat → Nat} {z : Nat × Nat} {I : rI} {R : rR} {M : mi_H} {n : Nat} {f : Nat → Int32} {tx : List (List Nat)} {cN : Nat} {A : Nat → Nat} {N mj : Nat} {E : List (Nat × Nat)} {k : Nat} (hR : RS g m0 q z I R M) (hi51 : I 51 = some 0) (hi52 : I 52 = some (nI N)) (hi53 : I 53 = some (nI mj)) (hF : FK n f I R) (hY : SYT tx cN A I R) (hP : RPV f n E tx N I R) (hEP : EP f n E) (hN : N < 65536) (hmj : mj < 65536) (ht : 7 ≤ tg f E k ∧ ¬ tg f E k = 15) : pt (mT g) 213 [.ref m0, .int (nI k), .int 1] M (fun v M' => (v = some (.int (nI (fi f E k))) ∧ M = M')) := by
  refine pt_in (b := mb_213 g) rfl (fun kf => ?_)
  show pl (mT g) kf (mb_213 g).2 (0, [(0, .ref m0), (1, .int (nI k)), (2, .int 1)], [], M) _
  have hn := hF.1
  obtain ⟨p, hk, hb⟩ := tg_lk (f := f) (E := E) (k := k) (by omega)
  have ha := hP.at hk
  have hep := hEP k p hk
  refine ps_st (S' := (1, [(0, .ref m0), (1, .int (nI k)), (2, .int 1)], [.ref m0], M)) rfl rfl rfl ?_
  refine ps_st (S' := (2, [(0, .ref m0), (1, .int (nI k)), (2, .int 1)], [.ref m0, .ref m0], M)) rfl rfl rfl ?_
  refine pr_ref (j := 21) (S' := (5, [(0, .ref m0), (1, .int (nI k)), (2, .int 1)], [.ref (q 21), .ref m0], M)) rfl hR rfl rfl ?_
  refine ps_st (S' := (6, [(0, .ref m0), (1, .int (nI k)), (2, .int 1)], [.ref m0, .ref (q 21), .ref m0], M)) rfl rfl rfl ?_
  refine pr_int (j := 51) (S' := (9, [(0, .ref m0), (1, .int (nI k)), (2, .int 1)], [.int 0, .ref (q 21), .ref m0], M)) rfl hR rfl hi51 rfl ?_
  refine ps_st (S' := (10, [(0, .ref m0), (1, .int (nI k)), (2, .int 1)], [.int (nI k), .int 0, .ref (q 21), .ref m0], M)) rfl rfl rfl ?_
  refine ps_st (S' := (11, [(0, .ref m0), (1, .int (nI k)), (2, .int 1)], [.int (0 + (nI k)), .ref (q 21), .ref m0], M)) rfl rfl rfl ?_
  rw [show (0 : Int32) + (nI k) = (nI k) from Int32.zero_add _]
  show pl _ _ _ (_, [(0, .ref m0), (1, .int (nI k)), (2, .int 1)], [.int (nI k), .ref (q 21), .ref m0], M) _
  refine pr_ld (a := 21) (j := k) (y := (nI p)) (S' := (12, [(0, .ref m0), (1, .int (nI k)), (2, .int 1)], [.int (nI p), .ref m0], M)) rfl hR rfl (by omega) (fun _ => ha.2.2) rfl (fun i1_11 => ?_)
  refine ps_st (S' := (13, [(0, .ref m0), (1, .int (nI k)), (2, .int 1)], [.int 1, .int (nI p), .ref m0], M)) rfl rfl rfl ?_
  refine ps_st (S' := (14, [(0, .ref m0), (1, .int (nI k)), (2, .int 1)], [.int ((nI p) + 1), .ref m0], M)) rfl rfl rfl ?_
  rw [nI_add1 (p := p) (k := 1) (x := 1) rfl (by omega)]
  show pl _ _ _ (_, [(0, .ref m0), (1, .int (nI k)), (2, .int 1)], [.int (nI (p + 1)), .ref m0], M) _
  refine pl_call (a := [.ref m0, .int (nI (p + 1))]) (rest := []) rfl rfl rfl (rd_u2 (n := n) (f := f) (p := (p + 1)) hR hF (by omega)) (fun v1 M2 q3 => ?_)
  obtain ⟨rfl, rfl⟩ := q3
  show pl _ _ _ (17, [(0, .ref m0), (1, .int (nI k)), (2, .int 1)], [.int (nI (by2 f (p + 1)))], M) _
  have hu_14 := by2_lt f (p + 1)
  exact ps_reti rfl (⟨by rw [fi_1 hk (by omega)], rfl⟩)
set_option maxHeartbeats 1000000 in
theorem rd_idx3 {g : xe_G} {m0 : Nat} {q : Nat → Nat} {z : Nat × Nat} {I : rI} {R : rR} {M : mi_H} {n : Nat} {f : Nat → Int32} {tx : List (List Nat)} {cN : Nat} {A : Nat → Nat} {N mj : Nat} {E : List (Nat × Nat)} {k : Nat} (hR : RS g m0 q z I R M) (hi51 : I 51 = some 0) (hi52 : I 52 = some (nI N)) (hi53 : I 53 = some (nI mj)) (hF : FK n f I R) (hY : SYT tx cN A I R) (hP : RPV f n E tx N I R) (hEP : EP f n E) (hN : N < 65536) (hmj : mj < 65536) (ht : 7 ≤ tg f E k ∧ ¬ (tg f E k = 15 ∨ tg f E k = 7 ∨ tg f E k = 8 ∨ tg f E k = 16 ∨ tg f E k = 19 ∨ tg f E k = 20)) : pt (mT g) 213 [.ref m0, .int (nI k), .int 3] M (fun v M' => (v = some (.int (nI (se f E k))) ∧ M = M')) := by
  refine pt_in (b := mb_213 g) rfl (fun kf => ?_)
  show pl (mT g) kf (mb_213 g).2 (0, [(0, .ref m0), (1, .int (nI k)), (2, .int 3)], [], M) _
  have hn := hF.1
  obtain ⟨p, hk, hb⟩ := tg_lk (f := f) (E := E) (k := k) (by omega)
  have ha := hP.at hk
  have hep := hEP k p hk
  refine ps_st (S' := (1, [(0, .ref m0), (1, .int (nI k)), (2, .int 3)], [.ref m0], M)) rfl rfl rfl ?_
  refine ps_st (S' := (2, [(0, .ref m0), (1, .int (nI k)), (2, .int 3)], [.ref m0, .ref m0], M)) rfl rfl rfl ?_
  refine pr_ref (j := 21) (S' := (5, [(0, .ref m0), (1, .int (nI k)), (2, .int 3)], [.ref (q 21), .ref m0], M)) rfl hR rfl rfl ?_
  refine ps_st (S' := (6, [(0, .ref m0), (1, .int (nI k)), (2, .int 3)], [.ref m0, .ref (q 21), .ref m0], M)) rfl rfl rfl ?_
  refine pr_int (j := 51) (S' := (9, [(0, .ref m0), (1, .int (nI k)), (2, .int 3)], [.int 0, .ref (q 21), .ref m0], M)) rfl hR rfl hi51 rfl ?_
  refine ps_st (S' := (10, [(0, .ref m0), (1, .int (nI k)), (2, .int 3)], [.int (nI k), .int 0, .ref (q 21), .ref m0], M)) rfl rfl rfl ?_
  refine ps_st (S' := (11, [(0, .ref m0), (1, .int (nI k)), (2, .int 3)], [.int (0 + (nI k)), .ref (q 21), .ref m0], M)) rfl rfl rfl ?_
  rw [show (0 : Int32) + (nI k) = (nI k) from Int32.zero_add _]
  show pl _ _ _ (_, [(0, .ref m0), (1, .int (nI k)), (2, .int 3)], [.int (nI k), .ref (q 21), .ref m0], M) _
  refine pr_ld (a := 21) (j := k) (y := (nI p)) (S' := (12, [(0, .ref m0), (1, .int (nI k)), (2, .int 3)], [.int (nI p), .ref m0], M)) rfl hR rfl (by omega) (fun _ => ha.2.2) rfl (fun i1_11 => ?_)
  refine ps_st (S' := (13, [(0, .ref m0), (1, .int (nI k)), (2, .int 3)], [.int 3, .int (nI p), .ref m0], M)) rfl rfl rfl ?_
  refine ps_st (S' := (14, [(0, .ref m0), (1, .int (nI k)), (2, .int 3)], [.int ((nI p) + 3), .ref m0], M)) rfl rfl rfl ?_
  rw [nI_add1 (p := p) (k := 3) (x := 3) rfl (by omega)]
  show pl _ _ _ (_, [(0, .ref m0), (1, .int (nI k)), (2, .int 3)], [.int (nI (p + 3)), .ref m0], M) _
  refine pl_call (a := [.ref m0, .int (nI (p + 3))]) (rest := []) rfl rfl rfl (rd_u2 (n := n) (f := f) (p := (p + 3)) hR hF (by omega)) (fun v1 M2 q3 => ?_)
  obtain ⟨rfl, rfl⟩ := q3
  show pl _ _ _ (17, [(0, .ref m0), (1, .int (nI k)), (2, .int 3)], [.int (nI (by2 f (p + 3)))], M) _
  have hu_14 := by2_lt f (p + 3)
  exact ps_reti rfl (⟨by rw [se_3 hk (by omega)], rfl⟩)
set_option maxHeartbeats 1000000 in
theorem rd_idx2 {g : xe_G} {m0 : Nat} {q : Nat → Nat} {z : Nat × Nat} {I : rI} {R : rR} {M : mi_H} {n : Nat} {f : Nat → Int32} {tx : List (List Nat)} {cN : Nat} {A : Nat → Nat} {N mj : Nat} {E : List (Nat × Nat)} {k : Nat} (hR : RS g m0 q z I R M) (hi51 : I 51 = some 0) (hi52 : I 52 = some (nI N)) (hi53 : I 53 = some (nI mj)) (hF : FK n f I R) (hY : SYT tx cN A I R) (hP : RPV f n E tx N I R) (hEP : EP f n E) (hN : N < 65536) (hmj : mj < 65536) (ht : tg f E k = 15) : pt (mT g) 213 [.ref m0, .int (nI k), .int 2] M (fun v M' => (v = some (.int (nI (se f E k))) ∧ M = M')) := by
  refine pt_in (b := mb_213 g) rfl (fun kf => ?_)
  show pl (mT g) kf (mb_213 g).2 (0, [(0, .ref m0), (1, .int (nI k)), (2, .int 2)], [], M) _
  have hn := hF.1
  obtain ⟨p, hk, hb⟩ := tg_lk (f := f) (E := E) (k := k) (by omega)
  have ha := hP.at hk
  have hep := hEP k p hk
  refine ps_st (S' := (1, [(0, .ref m0), (1, .int (nI k)), (2, .int 2)], [.ref m0], M)) rfl rfl rfl ?_
  refine ps_st (S' := (2, [(0, .ref m0), (1, .int (nI k)), (2, .int 2)], [.ref m0, .ref m0], M)) rfl rfl rfl ?_
  refine pr_ref (j := 21) (S' := (5, [(0, .ref m0), (1, .int (nI k)), (2, .int 2)], [.ref (q 21), .ref m0], M)) rfl hR rfl rfl ?_
  refine ps_st (S' := (6, [(0, .ref m0), (1, .int (nI k)), (2, .int 2)], [.ref m0, .ref (q 21), .ref m0], M)) rfl rfl rfl ?_
  refine pr_int (j := 51) (S' := (9, [(0, .ref m0), (1, .int (nI k)), (2, .int 2)], [.int 0, .ref (q 21), .ref m0], M)) rfl hR rfl hi51 rfl ?_
  refine ps_st (S' := (10, [(0, .ref m0), (1, .int (nI k)), (2, .int 2)], [.int (nI k), .int 0, .ref (q 21), .ref m0], M)) rfl rfl rfl ?_
  refine ps_st (S' := (11, [(0, .ref m0), (1, .int (nI k)), (2, .int 2)], [.int (0 + (nI k)), .ref (q 21), .ref m0], M)) rfl rfl rfl ?_
  rw [show (0 : Int32) + (nI k) = (nI k) from Int32.zero_add _]
  show pl _ _ _ (_, [(0, .ref m0), (1, .int (nI k)), (2, .int 2)], [.int (nI k), .ref (q 21), .ref m0], M) _
  refine pr_ld (a := 21) (j := k) (y := (nI p)) (S' := (12, [(0, .ref m0), (1, .int (nI k)), (2, .int 2)], [.int (nI p), .ref m0], M)) rfl hR rfl (by omega) (fun _ => ha.2.2) rfl (fun i1_11 => ?_)
  refine ps_st (S' := (13, [(0, .ref m0), (1, .int (nI k)), (2, .int 2)], [.int 2, .int (nI p), .ref m0], M)) rfl rfl rfl ?_
  refine ps_st (S' := (14, [(0, .ref m0), (1, .int (nI k)), (2, .int 2)], [.int ((nI p) + 2), .ref m0], M)) rfl rfl rfl ?_
  rw [nI_add1 (p := p) (k := 2) (x := 2) rfl (by omega)]
  show pl _ _ _ (_, [(0, .ref m0), (1, .int (nI k)), (2, .int 2)], [.int (nI (p + 2)), .ref m0], M) _
  refine pl_call (a := [.ref m0, .int (nI (p + 2))]) (rest := []) rfl rfl rfl (rd_u2 (n := n) (f := f) (p := (p + 2)) hR hF (by omega)) (fun v1 M2 q3 => ?_)
  obtain ⟨rfl, rfl⟩ := q3
  show pl _ _ _ (17, [(0, .ref m0), (1, .int (nI k)), (2, .int 2)], [.int (nI (by2 f (p + 2)))], M) _
  have hu_14 := by2_lt f (p + 2)
  exact ps_reti rfl (⟨by rw [se_15 hk (by omega)], rfl⟩)
set_option maxHeartbeats 1000000 in
theorem rd_symOf {g : xe_G} {m0 : Nat} {q : Nat → Nat} {z : Nat × Nat} {I : rI} {R : rR} {M : mi_H} {n : Nat} {f : Nat → Int32} {tx : List (List Nat)} {cN : Nat} {A : Nat → Nat} {N mj : Nat} {E : List (Nat × Nat)} {k : Nat} (hR : RS g m0 q z I R M) (hi51 : I 51 = some 0) (hi52 : I 52 = some (nI N)) (hi53 : I 53 = some (nI mj)) (hF : FK n f I R) (hY : SYT tx cN A I R) (hP : RPV f n E tx N I R) (hEP : EP f n E) (hN : N < 65536) (hmj : mj < 65536) (ht : tg f E k = 1) : pt (mT g) 244 [.ref m0, .int (nI k)] M (fun v M' => (∃ (s : Nat), (s < tx.length ∧ tx.getD s [] = tX f n E k) ∧ v = some (.int (nI s)) ∧ M = M')) := by
  refine pt_in (b := mb_244 g) rfl (fun kf => ?_)
  show pl (mT g) kf (mb_244 g).2 (0, [(0, .ref m0), (1, .int (nI k))], [], M) _
  have hn := hF.1
  obtain ⟨hkN, s, h1, h2, h3⟩ := hP.sy ht
  refine ps_st (S' := (1, [(0, .ref m0), (1, .int (nI k))], [.ref m0], M)) rfl rfl rfl ?_
  refine pr_ref (j := 22) (S' := (4, [(0, .ref m0), (1, .int (nI k))], [.ref (q 22)], M)) rfl hR rfl rfl ?_
  refine ps_st (S' := (5, [(0, .ref m0), (1, .int (nI k))], [.ref m0, .ref (q 22)], M)) rfl rfl rfl ?_
  refine pr_int (j := 51) (S' := (8, [(0, .ref m0), (1, .int (nI k))], [.int 0, .ref (q 22)], M)) rfl hR rfl hi51 rfl ?_
  refine ps_st (S' := (9, [(0, .ref m0), (1, .int (nI k))], [.int (nI k), .int 0, .ref (q 22)], M)) rfl rfl rfl ?_
  refine ps_st (S' := (10, [(0, .ref m0), (1, .int (nI k))], [.int (0 + (nI k)), .ref (q 22)], M)) rfl rfl rfl ?_
  rw [show (0 : Int32) + (nI k) = (nI k) from Int32.zero_add _]
  show pl _ _ _ (_, [(0, .ref m0), (1, .int (nI k))], [.int (nI k), .ref (q 22)], M) _
  refine pr_ld (a := 22) (j := k) (y := (nI s)) (S' := (11, [(0, .ref m0), (1, .int (nI k))], [.int (nI s)], M)) rfl hR rfl (by omega) (fun _ => h1) rfl (fun i1_10 => ?_)
  exact ps_reti rfl (⟨s, ⟨h2, h3⟩, rfl, rfl⟩)
set_option maxHeartbeats 1000000 in
theorem rd_className {g : xe_G} {m0 : Nat} {q : Nat → Nat} {z : Nat × Nat} {I : rI} {R : rR} {M : mi_H} {n : Nat} {f : Nat → Int32} {tx : List (List Nat)} {cN : Nat} {A : Nat → Nat} {N mj : Nat} {E : List (Nat × Nat)} {k : Nat} (hR : RS g m0 q z I R M) (hi51 : I 51 = some 0) (hi52 : I 52 = some (nI N)) (hi53 : I 53 = some (nI mj)) (hF : FK n f I R) (hY : SYT tx cN A I R) (hP : RPV f n E tx N I R) (hEP : EP f n E) (hN : N < 65536) (hmj : mj < 65536) (ht : tg f E k = 7 ∧ tg f E (fi f E k) = 1) : pt (mT g) 193 [.ref m0, .int (nI k)] M (fun v M' => (∃ (s : Nat), (s < tx.length ∧ tx.getD s [] = tX f n E (fi f E k)) ∧ v = some (.int (nI s)) ∧ M = M')) := by
  refine pt_in (b := mb_193 g) rfl (fun kf => ?_)
  show pl (mT g) kf (mb_193 g).2 (0, [(0, .ref m0), (1, .int (nI k))], [], M) _
  have hn := hF.1
  refine ps_st (S' := (1, [(0, .ref m0), (1, .int (nI k))], [.ref m0], M)) rfl rfl rfl ?_
  refine ps_st (S' := (2, [(0, .ref m0), (1, .int (nI k))], [.ref m0, .ref m0], M)) rfl rfl rfl ?_
  refine ps_st (S' := (3, [(0, .ref m0), (1, .int (nI k))], [.int (nI k), .ref m0, .ref m0], M)) rfl rfl rfl ?_
  refine ps_st (S' := (4, [(0, .ref m0), (1, .int (nI k))], [.int 1, .int (nI k), .ref m0, .ref m0], M)) rfl rfl rfl ?_
  refine pl_call (a := [.ref m0, .int (nI k), .int 1]) (rest := [.ref m0]) rfl rfl rfl (rd_idx1 (n := n) (f := f) (tx := tx) (cN := cN) (A := A) (N := N) (mj := mj) (E := E) (k := k) hR hi51 hi52 hi53 hF hY hP (hEP) (hN) (hmj) (by omega)) (fun v1 M2 q3 => ?_)
  obtain ⟨rfl, rfl⟩ := q3
  show pl _ _ _ (7, [(0, .ref m0), (1, .int (nI k))], [.int (nI (fi f E k)), .ref m0], M) _
  have hix_4 := fi_lt f E k
  refine pl_call (a := [.ref m0, .int (nI (fi f E k))]) (rest := []) rfl rfl rfl (rd_symOf (n := n) (f := f) (tx := tx) (cN := cN) (A := A) (N := N) (mj := mj) (E := E) (k := (fi f E k)) hR hi51 hi52 hi53 hF hY hP (hEP) (hN) (hmj) (by omega)) (fun v4 M5 q6 => ?_)
  obtain ⟨s7, q7_s, rfl, rfl⟩ := q6
  show pl _ _ _ (10, [(0, .ref m0), (1, .int (nI k))], [.int (nI s7)], M) _
  have hsl_7 := q7_s.1
  have htl_7 := hY.1.2.2.1
  exact ps_reti rfl (⟨s7, q7_s, rfl, rfl⟩)
set_option maxHeartbeats 1000000 in
theorem rd_plainClass {g : xe_G} {m0 : Nat} {q : Nat → Nat} {z : Nat × Nat} {I : rI} {R : rR} {M : mi_H} {n : Nat} {f : Nat → Int32} {tx : List (List Nat)} {cN : Nat} {A : Nat → Nat} {N mj : Nat} {E : List (Nat × Nat)} {k : Nat} (hR : RS g m0 q z I R M) (hi51 : I 51 = some 0) (hi52 : I 52 = some (nI N)) (hi53 : I 53 = some (nI mj)) (hF : FK n f I R) (hY : SYT tx cN A I R) (hP : RPV f n E tx N I R) (hEP : EP f n E) (hN : N < 65536) (hmj : mj < 65536) (hk : k < 65536) (hCP : CP f n E) : pt (mT g) 235 [.ref m0, .int (nI k)] M (fun v M' => (v = some (.int (nI (plnN f n E k))) ∧ M = M')) := by
  refine pt_in (b := mb_235 g) rfl (fun kf => ?_)
  show pl (mT g) kf (mb_235 g).2 (0, [(0, .ref m0), (1, .int (nI k))], [], M) _
  have hn := hF.1
  refine ps_st (S' := (1, [(0, .ref m0), (1, .int (nI k))], [.ref m0], M)) rfl rfl rfl ?_
  refine ps_st (S' := (2, [(0, .ref m0), (1, .int (nI k))], [.int (nI k), .ref m0], M)) rfl rfl rfl ?_
  refine pl_call (a := [.ref m0, .int (nI k)]) (rest := []) rfl rfl rfl (rd_tag (n := n) (f := f) (tx := tx) (cN := cN) (A := A) (N := N) (mj := mj) (E := E) (k := k) hR hi51 hi52 hi53 hF hY hP (hEP) (hN) (hmj) (by omega)) (fun v1 M2 q3 => ?_)
  obtain ⟨rfl, rfl⟩ := q3
  show pl _ _ _ (5, [(0, .ref m0), (1, .int (nI k))], [.int (nI (tg f E k))], M) _
  have htg_2 := tg_lt f E k
  refine ps_st (S' := (7, [(0, .ref m0), (1, .int (nI k))], [.int 7, .int (nI (tg f E k))], M)) rfl rfl rfl ?_
  refine ps_if2 (S1 := (29, [], [], M)) (S2 := (10, [(0, .ref m0), (1, .int (nI k))], [], M)) rfl rfl rfl (fun c_7 => ?_) (fun c_7 => ?_)
  · have c_7 : ¬ (nI (tg f E k)) = 7 := of_decide_eq_true c_7
    have n_7 : ¬ (tg f E k = 7) := fun h9 => c_7 ((eq_nI (p := tg f E k) (n := 7) (Nat.lt_trans (tg_lt _ _ _) (by decide)) (by decide)).mpr h9)
    refine ps_st (S' := (30, [], [.int 0], M)) rfl rfl rfl ?_
    exact ps_ret rfl rfl (⟨congrArg (fun x => some (Value.int (nI x))) (show 0 = plnN f n E k from by
        unfold plnN
        first | ((repeat first | rw [if_pos (by omega)] | rw [if_neg (by omega)]) <;> first | rfl | omega) | ((repeat' split) <;> first | rfl | (exfalso; omega) | omega)), rfl⟩)
  · have c_7 : ¬ (¬ (nI (tg f E k)) = 7) := of_decide_eq_false c_7
    have n_7 : tg f E k = 7 := (eq_nI (p := tg f E k) (n := 7) (Nat.lt_trans (tg_lt _ _ _) (by decide)) (by decide)).mp (Decidable.not_not.mp c_7)
    have hcp := hCP k (by omega)
    refine ps_st (S' := (11, [(0, .ref m0), (1, .int (nI k))], [.ref m0], M)) rfl rfl rfl ?_
    refine ps_st (S' := (12, [(0, .ref m0), (1, .int (nI k))], [.ref m0, .ref m0], M)) rfl rfl rfl ?_
    refine ps_st (S' := (13, [(0, .ref m0), (1, .int (nI k))], [.int (nI k), .ref m0, .ref m0], M)) rfl rfl rfl ?_
    refine pl_call (a := [.ref m0, .int (nI k)]) (rest := [.ref m0]) rfl rfl rfl (rd_className (n := n) (f := f) (tx := tx) (cN := cN) (A := A) (N := N) (mj := mj) (E := E) (k := k) hR hi51 hi52 hi53 hF hY hP (hEP) (hN) (hmj) (by omega)) (fun v4 M5 q6 => ?_)
    obtain ⟨s7, q13_s, rfl, rfl⟩ := q6
    show pl _ _ _ (16, [(0, .ref m0), (1, .int (nI k))], [.int (nI s7), .ref m0], M) _
    have hsl_13 := q13_s.1
    have htl_13 := hY.1.2.2.1
    refine ps_st (S' := (17, [(0, .ref m0), (1, .int (nI k))], [.int 0, .int (nI s7), .ref m0], M)) rfl rfl rfl ?_
    refine pl_call (a := [.ref m0, .int (nI s7), .int 0]) (rest := []) rfl rfl rfl (rd_at (tx := tx) (cN := cN) (A := A) (s := s7) (l := (tX f n E (fi f E k))) (k := 0) hR hY (q13_s) (by omega)) (fun v8 M9 q10 => ?_)
    obtain ⟨rfl, rfl⟩ := q10
    show pl _ _ _ (20, [(0, .ref m0), (1, .int (nI k))], [.int (nI ((tX f n E (fi f E k)).getD 0 0))], M) _
    have hc_17 := hY.ch q13_s (k := 0) (by omega)
    refine ps_st (S' := (22, [(0, .ref m0), (1, .int (nI k))], [.int 91, .int (nI ((tX f n E (fi f E k)).getD 0 0))], M)) rfl rfl rfl ?_
    refine ps_if2 (S1 := (29, [], [], M)) (S2 := (25, [(0, .ref m0), (1, .int (nI k))], [], M)) rfl rfl rfl (fun c_22 => ?_) (fun c_22 => ?_)
    · have c_22 : (nI ((tX f n E (fi f E k)).getD 0 0)) = 91 := of_decide_eq_true c_22
      have n_22 : (tX f n E (fi f E k)).getD 0 0 = 91 := (eq_nI (p := (tX f n E (fi f E k)).getD 0 0) (n := 91) (Nat.lt_trans (tx_ch _ _ _ _ _) (by decide)) (by decide)).mp c_22
      refine ps_st (S' := (30, [], [.int 0], M)) rfl rfl rfl ?_
      exact ps_ret rfl rfl (⟨congrArg (fun x => some (Value.int (nI x))) (show 0 = plnN f n E k from by
          unfold plnN
          first | ((repeat first | rw [if_pos (by omega)] | rw [if_neg (by omega)]) <;> first | rfl | omega) | ((repeat' split) <;> first | rfl | (exfalso; omega) | omega)), rfl⟩)
    · have c_22 : ¬ ((nI ((tX f n E (fi f E k)).getD 0 0)) = 91) := of_decide_eq_false c_22
      have n_22 : ¬ ((tX f n E (fi f E k)).getD 0 0 = 91) := fun h9 => c_22 ((eq_nI (p := (tX f n E (fi f E k)).getD 0 0) (n := 91) (Nat.lt_trans (tx_ch _ _ _ _ _) (by decide)) (by decide)).mpr h9)
      refine ps_st (S' := (26, [(0, .ref m0), (1, .int (nI k))], [.int 1], M)) rfl rfl rfl ?_
      refine ps_st (S' := (30, [], [.int 1], M)) rfl rfl rfl ?_
      exact ps_ret rfl rfl (⟨congrArg (fun x => some (Value.int (nI x))) (show 1 = plnN f n E k from by
          unfold plnN
          first | ((repeat first | rw [if_pos (by omega)] | rw [if_neg (by omega)]) <;> first | rfl | omega) | ((repeat' split) <;> first | rfl | (exfalso; omega) | omega)), rfl⟩)
set_option maxHeartbeats 1000000 in
theorem rd_ix7 {g : xe_G} {m0 : Nat} {q : Nat → Nat} {z : Nat × Nat} {I : rI} {R : rR} {M : mi_H} {n : Nat} {f : Nat → Int32} {tx : List (List Nat)} {cN : Nat} {A : Nat → Nat} {N mj : Nat} {E : List (Nat × Nat)} {k : Nat} (hR : RS g m0 q z I R M) (hi51 : I 51 = some 0) (hi52 : I 52 = some (nI N)) (hi53 : I 53 = some (nI mj)) (hF : FK n f I R) (hY : SYT tx cN A I R) (hP : RPV f n E tx N I R) (hEP : EP f n E) (hN : N < 65536) (hmj : mj < 65536) (ht : tg f E k = 7) : pt (mT g) 214 [.ref m0, .int (nI k), .int 7, .int 0] M (fun v M' => (v = some (.int (nI (lnkN f E k))) ∧ M = M')) := by
  refine pt_in (b := mb_214 g) rfl (fun kf => ?_)
  show pl (mT g) kf (mb_214 g).2 (0, [(0, .ref m0), (1, .int (nI k)), (2, .int 7), (3, .int 0)], [], M) _
  have hn := hF.1
  refine ps_st (S' := (1, [(0, .ref m0), (1, .int (nI k)), (2, .int 7), (3, .int 0)], [.int 7], M)) rfl rfl rfl ?_
  refine ps_st (S' := (3, [(0, .ref m0), (1, .int (nI k)), (2, .int 7), (3, .int 0)], [.int 7, .int 7], M)) rfl rfl rfl ?_
  refine ps_if2 (S1 := (30, [(0, .ref m0), (1, .int (nI k))], [], M)) (S2 := (6, [(0, .ref m0), (1, .int (nI k)), (2, .int 7), (3, .int 0)], [], M)) rfl rfl rfl (fun c_3 => ?_) (fun c_3 => ?_)
  rotate_left
  · exact absurd (by decide) (of_decide_eq_false c_3)
  refine ps_st (S' := (31, [(0, .ref m0), (1, .int (nI k))], [.ref m0], M)) rfl rfl rfl ?_
  refine ps_st (S' := (32, [(0, .ref m0), (1, .int (nI k))], [.ref m0, .ref m0], M)) rfl rfl rfl ?_
  refine ps_st (S' := (33, [(0, .ref m0), (1, .int (nI k))], [.int (nI k), .ref m0, .ref m0], M)) rfl rfl rfl ?_
  refine ps_st (S' := (34, [(0, .ref m0), (1, .int (nI k))], [.int 1, .int (nI k), .ref m0, .ref m0], M)) rfl rfl rfl ?_
  refine pl_call (a := [.ref m0, .int (nI k), .int 1]) (rest := [.ref m0]) rfl rfl rfl (rd_idx1 (n := n) (f := f) (tx := tx) (cN := cN) (A := A) (N := N) (mj := mj) (E := E) (k := k) hR hi51 hi52 hi53 hF hY hP (hEP) (hN) (hmj) (by omega)) (fun v1 M2 q3 => ?_)
  obtain ⟨rfl, rfl⟩ := q3
  show pl _ _ _ (37, [(0, .ref m0), (1, .int (nI k))], [.int (nI (fi f E k)), .ref m0], M) _
  have hix_34 := fi_lt f E k
  refine pl_call (a := [.ref m0, .int (nI (fi f E k))]) (rest := []) rfl rfl rfl (rd_tag (n := n) (f := f) (tx := tx) (cN := cN) (A := A) (N := N) (mj := mj) (E := E) (k := (fi f E k)) hR hi51 hi52 hi53 hF hY hP (hEP) (hN) (hmj) (fi_lt _ _ _)) (fun v4 M5 q6 => ?_)
  obtain ⟨rfl, rfl⟩ := q6
  show pl _ _ _ (40, [(0, .ref m0), (1, .int (nI k))], [.int (nI (tg f E (fi f E k)))], M) _
  have htg_37 := tg_lt f E (fi f E k)
  refine ps_st (S' := (41, [(0, .ref m0), (1, .int (nI k))], [.int 1, .int (nI (tg f E (fi f E k)))], M)) rfl rfl rfl ?_
  refine ps_if2 (S1 := (48, [(0, .ref m0), (1, .int (nI k))], [], M)) (S2 := (44, [(0, .ref m0), (1, .int (nI k))], [], M)) rfl rfl rfl (fun c_41 => ?_) (fun c_41 => ?_)
  · have c_41 : ¬ (nI (tg f E (fi f E k))) = 1 := of_decide_eq_true c_41
    have n_41 : ¬ (tg f E (fi f E k) = 1) := fun h9 => c_41 ((eq_nI (p := tg f E (fi f E k)) (n := 1) (Nat.lt_trans (tg_lt _ _ _) (by decide)) (by decide)).mpr h9)
    refine ps_st (S' := (49, [], [.int 0], M)) rfl rfl rfl ?_
    exact ps_ret rfl rfl (⟨congrArg (fun x => some (Value.int (nI x))) (show 0 = lnkN f E k from by
        unfold lnkN
        first | ((repeat first | rw [if_pos (by omega)] | rw [if_neg (by omega)]) <;> first | rfl | omega) | ((repeat' split) <;> first | rfl | (exfalso; omega) | omega)), rfl⟩)
  · have c_41 : ¬ (¬ (nI (tg f E (fi f E k))) = 1) := of_decide_eq_false c_41
    have n_41 : tg f E (fi f E k) = 1 := (eq_nI (p := tg f E (fi f E k)) (n := 1) (Nat.lt_trans (tg_lt _ _ _) (by decide)) (by decide)).mp (Decidable.not_not.mp c_41)
    refine ps_st (S' := (45, [(0, .ref m0), (1, .int (nI k))], [.int 1], M)) rfl rfl rfl ?_
    refine ps_st (S' := (49, [], [.int 1], M)) rfl rfl rfl ?_
    exact ps_ret rfl rfl (⟨congrArg (fun x => some (Value.int (nI x))) (show 1 = lnkN f E k from by
        unfold lnkN
        first | ((repeat first | rw [if_pos (by omega)] | rw [if_neg (by omega)]) <;> first | rfl | omega) | ((repeat' split) <;> first | rfl | (exfalso; omega) | omega)), rfl⟩)
set_option maxHeartbeats 1000000 in
theorem rd_ix12 {g : xe_G} {m0 : Nat} {q : Nat → Nat} {z : Nat × Nat} {I : rI} {R : rR} {M : mi_H} {n : Nat} {f : Nat → Int32} {tx : List (List Nat)} {cN : Nat} {A : Nat → Nat} {N mj : Nat} {E : List (Nat × Nat)} {k : Nat} (hR : RS g m0 q z I R M) (hi51 : I 51 = some 0) (hi52 : I 52 = some (nI N)) (hi53 : I 53 = some (nI mj)) (hF : FK n f I R) (hY : SYT tx cN A I R) (hP : RPV f n E tx N I R) (hEP : EP f n E) (hN : N < 65536) (hmj : mj < 65536) (ht : tg f E k = 12) : pt (mT g) 214 [.ref m0, .int (nI k), .int 12, .int 0] M (fun v M' => (v = some (.int (nI (pairN f E k))) ∧ M = M')) := by
  refine pt_in (b := mb_214 g) rfl (fun kf => ?_)
  show pl (mT g) kf (mb_214 g).2 (0, [(0, .ref m0), (1, .int (nI k)), (2, .int 12), (3, .int 0)], [], M) _
  have hn := hF.1
  refine ps_st (S' := (1, [(0, .ref m0), (1, .int (nI k)), (2, .int 12), (3, .int 0)], [.int 12], M)) rfl rfl rfl ?_
  refine ps_st (S' := (3, [(0, .ref m0), (1, .int (nI k)), (2, .int 12), (3, .int 0)], [.int 7, .int 12], M)) rfl rfl rfl ?_
  refine ps_if2 (S1 := (30, [(0, .ref m0), (1, .int (nI k))], [], M)) (S2 := (6, [(0, .ref m0), (1, .int (nI k)), (2, .int 12), (3, .int 0)], [], M)) rfl rfl rfl (fun c_3 => ?_) (fun c_3 => ?_)
  · exact absurd (of_decide_eq_true c_3) (by decide)
  refine ps_st (S' := (7, [(0, .ref m0), (1, .int (nI k)), (2, .int 12), (3, .int 0)], [.int 12], M)) rfl rfl rfl ?_
  refine ps_st (S' := (9, [(0, .ref m0), (1, .int (nI k)), (2, .int 12), (3, .int 0)], [.int 8, .int 12], M)) rfl rfl rfl ?_
  refine ps_if2 (S1 := (30, [(0, .ref m0), (1, .int (nI k))], [], M)) (S2 := (12, [(0, .ref m0), (1, .int (nI k)), (2, .int 12), (3, .int 0)], [], M)) rfl rfl rfl (fun c_9 => ?_) (fun c_9 => ?_)
  · exact absurd (of_decide_eq_true c_9) (by decide)
  refine ps_st (S' := (13, [(0, .ref m0), (1, .int (nI k)), (2, .int 12), (3, .int 0)], [.int 12], M)) rfl rfl rfl ?_
  refine ps_st (S' := (15, [(0, .ref m0), (1, .int (nI k)), (2, .int 12), (3, .int 0)], [.int 16, .int 12], M)) rfl rfl rfl ?_
  refine ps_if2 (S1 := (30, [(0, .ref m0), (1, .int (nI k))], [], M)) (S2 := (18, [(0, .ref m0), (1, .int (nI k)), (2, .int 12), (3, .int 0)], [], M)) rfl rfl rfl (fun c_15 => ?_) (fun c_15 => ?_)
  · exact absurd (of_decide_eq_true c_15) (by decide)
  refine ps_st (S' := (19, [(0, .ref m0), (1, .int (nI k)), (2, .int 12), (3, .int 0)], [.int 12], M)) rfl rfl rfl ?_
  refine ps_st (S' := (21, [(0, .ref m0), (1, .int (nI k)), (2, .int 12), (3, .int 0)], [.int 19, .int 12], M)) rfl rfl rfl ?_
  refine ps_if2 (S1 := (30, [(0, .ref m0), (1, .int (nI k))], [], M)) (S2 := (24, [(0, .ref m0), (1, .int (nI k)), (2, .int 12), (3, .int 0)], [], M)) rfl rfl rfl (fun c_21 => ?_) (fun c_21 => ?_)
  · exact absurd (of_decide_eq_true c_21) (by decide)
  refine ps_st (S' := (25, [(0, .ref m0), (1, .int (nI k)), (2, .int 12), (3, .int 0)], [.int 12], M)) rfl rfl rfl ?_
  refine ps_st (S' := (27, [(0, .ref m0), (1, .int (nI k)), (2, .int 12), (3, .int 0)], [.int 20, .int 12], M)) rfl rfl rfl ?_
  refine ps_if2 (S1 := (50, [(0, .ref m0), (1, .int (nI k)), (2, .int 12), (3, .int 0)], [], M)) (S2 := (30, [(0, .ref m0), (1, .int (nI k))], [], M)) rfl rfl rfl (fun c_27 => ?_) (fun c_27 => ?_)
  rotate_left
  · exact absurd (by decide) (of_decide_eq_false c_27)
  refine ps_st (S' := (51, [(0, .ref m0), (1, .int (nI k)), (2, .int 12), (3, .int 0)], [.int 12], M)) rfl rfl rfl ?_
  refine ps_st (S' := (53, [(0, .ref m0), (1, .int (nI k)), (2, .int 12), (3, .int 0)], [.int 9, .int 12], M)) rfl rfl rfl ?_
  refine ps_if2 (S1 := (130, [(0, .ref m0), (1, .int (nI k)), (2, .int 12)], [], M)) (S2 := (56, [(0, .ref m0), (1, .int (nI k)), (2, .int 12), (3, .int 0)], [], M)) rfl rfl rfl (fun c_53 => ?_) (fun c_53 => ?_)
  · exact absurd (of_decide_eq_true c_53) (by decide)
  refine ps_st (S' := (57, [(0, .ref m0), (1, .int (nI k)), (2, .int 12), (3, .int 0)], [.int 12], M)) rfl rfl rfl ?_
  refine ps_st (S' := (59, [(0, .ref m0), (1, .int (nI k)), (2, .int 12), (3, .int 0)], [.int 11, .int 12], M)) rfl rfl rfl ?_
  refine ps_if2 (S1 := (130, [(0, .ref m0), (1, .int (nI k)), (2, .int 12)], [], M)) (S2 := (62, [(0, .ref m0), (1, .int (nI k)), (2, .int 12), (3, .int 0)], [], M)) rfl rfl rfl (fun c_59 => ?_) (fun c_59 => ?_)
  rotate_left
  · exact absurd (by decide) (of_decide_eq_false c_59)
  refine ps_st (S' := (131, [(0, .ref m0), (1, .int (nI k)), (2, .int 12)], [.int 12], M)) rfl rfl rfl ?_
  refine ps_st (S' := (133, [(0, .ref m0), (1, .int (nI k)), (2, .int 12)], [.int 12, .int 12], M)) rfl rfl rfl ?_
  refine ps_if2 (S1 := (170, [(0, .ref m0), (1, .int (nI k)), (2, .int 12)], [], M)) (S2 := (136, [(0, .ref m0), (1, .int (nI k)), (2, .int 12)], [], M)) rfl rfl rfl (fun c_133 => ?_) (fun c_133 => ?_)
  · exact absurd (of_decide_eq_true c_133) (by decide)
  refine ps_st (S' := (137, [(0, .ref m0), (1, .int (nI k)), (2, .int 12)], [.ref m0], M)) rfl rfl rfl ?_
  refine ps_st (S' := (138, [(0, .ref m0), (1, .int (nI k)), (2, .int 12)], [.ref m0, .ref m0], M)) rfl rfl rfl ?_
  refine ps_st (S' := (139, [(0, .ref m0), (1, .int (nI k)), (2, .int 12)], [.int (nI k), .ref m0, .ref m0], M)) rfl rfl rfl ?_
  refine ps_st (S' := (140, [(0, .ref m0), (1, .int (nI k)), (2, .int 12)], [.int 1, .int (nI k), .ref m0, .ref m0], M)) rfl rfl rfl ?_
  refine pl_call (a := [.ref m0, .int (nI k), .int 1]) (rest := [.ref m0]) rfl rfl rfl (rd_idx1 (n := n) (f := f) (tx := tx) (cN := cN) (A := A) (N := N) (mj := mj) (E := E) (k := k) hR hi51 hi52 hi53 hF hY hP (hEP) (hN) (hmj) (by omega)) (fun v1 M2 q3 => ?_)
  obtain ⟨rfl, rfl⟩ := q3
  show pl _ _ _ (143, [(0, .ref m0), (1, .int (nI k)), (2, .int 12)], [.int (nI (fi f E k)), .ref m0], M) _
  have hix_140 := fi_lt f E k
  refine pl_call (a := [.ref m0, .int (nI (fi f E k))]) (rest := []) rfl rfl rfl (rd_tag (n := n) (f := f) (tx := tx) (cN := cN) (A := A) (N := N) (mj := mj) (E := E) (k := (fi f E k)) hR hi51 hi52 hi53 hF hY hP (hEP) (hN) (hmj) (fi_lt _ _ _)) (fun v4 M5 q6 => ?_)
  obtain ⟨rfl, rfl⟩ := q6
  show pl _ _ _ (146, [(0, .ref m0), (1, .int (nI k)), (2, .int 12)], [.int (nI (tg f E (fi f E k)))], M) _
  have htg_143 := tg_lt f E (fi f E k)
  refine ps_st (S' := (147, [(0, .ref m0), (1, .int (nI k)), (2, .int 12)], [.int 1, .int (nI (tg f E (fi f E k)))], M)) rfl rfl rfl ?_
  refine ps_if2 (S1 := (168, [], [], M)) (S2 := (150, [(0, .ref m0), (1, .int (nI k)), (2, .int 12)], [], M)) rfl rfl rfl (fun c_147 => ?_) (fun c_147 => ?_)
  · have c_147 : ¬ (nI (tg f E (fi f E k))) = 1 := of_decide_eq_true c_147
    have n_147 : ¬ (tg f E (fi f E k) = 1) := fun h9 => c_147 ((eq_nI (p := tg f E (fi f E k)) (n := 1) (Nat.lt_trans (tg_lt _ _ _) (by decide)) (by decide)).mpr h9)
    refine ps_st (S' := (169, [], [.int 0], M)) rfl rfl rfl ?_
    exact ps_ret rfl rfl (⟨congrArg (fun x => some (Value.int (nI x))) (show 0 = pairN f E k from by
        unfold pairN
        first | ((repeat first | rw [if_pos (by omega)] | rw [if_neg (by omega)]) <;> first | rfl | omega) | ((repeat' split) <;> first | rfl | (exfalso; omega) | omega)), rfl⟩)
  · have c_147 : ¬ (¬ (nI (tg f E (fi f E k))) = 1) := of_decide_eq_false c_147
    have n_147 : tg f E (fi f E k) = 1 := (eq_nI (p := tg f E (fi f E k)) (n := 1) (Nat.lt_trans (tg_lt _ _ _) (by decide)) (by decide)).mp (Decidable.not_not.mp c_147)
    refine ps_st (S' := (151, [(0, .ref m0), (1, .int (nI k)), (2, .int 12)], [.ref m0], M)) rfl rfl rfl ?_
    refine ps_st (S' := (152, [(0, .ref m0), (1, .int (nI k)), (2, .int 12)], [.ref m0, .ref m0], M)) rfl rfl rfl ?_
    refine ps_st (S' := (153, [(0, .ref m0), (1, .int (nI k)), (2, .int 12)], [.int (nI k), .ref m0, .ref m0], M)) rfl rfl rfl ?_
    refine ps_st (S' := (154, [(0, .ref m0), (1, .int (nI k)), (2, .int 12)], [.int 3, .int (nI k), .ref m0, .ref m0], M)) rfl rfl rfl ?_
    refine pl_call (a := [.ref m0, .int (nI k), .int 3]) (rest := [.ref m0]) rfl rfl rfl (rd_idx3 (n := n) (f := f) (tx := tx) (cN := cN) (A := A) (N := N) (mj := mj) (E := E) (k := k) hR hi51 hi52 hi53 hF hY hP (hEP) (hN) (hmj) (by omega)) (fun v7 M8 q9 => ?_)
    obtain ⟨rfl, rfl⟩ := q9
    show pl _ _ _ (157, [(0, .ref m0), (1, .int (nI k)), (2, .int 12)], [.int (nI (se f E k)), .ref m0], M) _
    have hix_154 := se_lt f E k
    refine pl_call (a := [.ref m0, .int (nI (se f E k))]) (rest := []) rfl rfl rfl (rd_tag (n := n) (f := f) (tx := tx) (cN := cN) (A := A) (N := N) (mj := mj) (E := E) (k := (se f E k)) hR hi51 hi52 hi53 hF hY hP (hEP) (hN) (hmj) (se_lt _ _ _)) (fun v10 M11 q12 => ?_)
    obtain ⟨rfl, rfl⟩ := q12
    show pl _ _ _ (160, [(0, .ref m0), (1, .int (nI k)), (2, .int 12)], [.int (nI (tg f E (se f E k)))], M) _
    have htg_157 := tg_lt f E (se f E k)
    refine ps_st (S' := (161, [(0, .ref m0), (1, .int (nI k)), (2, .int 12)], [.int 1, .int (nI (tg f E (se f E k)))], M)) rfl rfl rfl ?_
    refine ps_if2 (S1 := (168, [], [], M)) (S2 := (164, [(0, .ref m0), (1, .int (nI k)), (2, .int 12)], [], M)) rfl rfl rfl (fun c_161 => ?_) (fun c_161 => ?_)
    · have c_161 : ¬ (nI (tg f E (se f E k))) = 1 := of_decide_eq_true c_161
      have n_161 : ¬ (tg f E (se f E k) = 1) := fun h9 => c_161 ((eq_nI (p := tg f E (se f E k)) (n := 1) (Nat.lt_trans (tg_lt _ _ _) (by decide)) (by decide)).mpr h9)
      refine ps_st (S' := (169, [], [.int 0], M)) rfl rfl rfl ?_
      exact ps_ret rfl rfl (⟨congrArg (fun x => some (Value.int (nI x))) (show 0 = pairN f E k from by
          unfold pairN
          first | ((repeat first | rw [if_pos (by omega)] | rw [if_neg (by omega)]) <;> first | rfl | omega) | ((repeat' split) <;> first | rfl | (exfalso; omega) | omega)), rfl⟩)
    · have c_161 : ¬ (¬ (nI (tg f E (se f E k))) = 1) := of_decide_eq_false c_161
      have n_161 : tg f E (se f E k) = 1 := (eq_nI (p := tg f E (se f E k)) (n := 1) (Nat.lt_trans (tg_lt _ _ _) (by decide)) (by decide)).mp (Decidable.not_not.mp c_161)
      refine ps_st (S' := (165, [(0, .ref m0), (1, .int (nI k)), (2, .int 12)], [.int 1], M)) rfl rfl rfl ?_
      refine ps_st (S' := (169, [], [.int 1], M)) rfl rfl rfl ?_
      exact ps_ret rfl rfl (⟨congrArg (fun x => some (Value.int (nI x))) (show 1 = pairN f E k from by
          unfold pairN
          first | ((repeat first | rw [if_pos (by omega)] | rw [if_neg (by omega)]) <;> first | rfl | omega) | ((repeat' split) <;> first | rfl | (exfalso; omega) | omega)), rfl⟩)
set_option maxHeartbeats 1000000 in
theorem rd_ixM {g : xe_G} {m0 : Nat} {q : Nat → Nat} {z : Nat × Nat} {I : rI} {R : rR} {M : mi_H} {n : Nat} {f : Nat → Int32} {tx : List (List Nat)} {cN : Nat} {A : Nat → Nat} {N mj : Nat} {E : List (Nat × Nat)} {k t : Nat} (hR : RS g m0 q z I R M) (hi51 : I 51 = some 0) (hi52 : I 52 = some (nI N)) (hi53 : I 53 = some (nI mj)) (hF : FK n f I R) (hY : SYT tx cN A I R) (hP : RPV f n E tx N I R) (hEP : EP f n E) (hN : N < 65536) (hmj : mj < 65536) (ht : tg f E k = t) (ht2 : 9 ≤ t ∧ t ≤ 11) : pt (mT g) 214 [.ref m0, .int (nI k), .int (nI t), .int 0] M (fun v M' => (v = some (.int (nI (memN f E k))) ∧ M = M')) := by
  refine pt_in (b := mb_214 g) rfl (fun kf => ?_)
  show pl (mT g) kf (mb_214 g).2 (0, [(0, .ref m0), (1, .int (nI k)), (2, .int (nI t)), (3, .int 0)], [], M) _
  have hn := hF.1
  refine ps_st (S' := (1, [(0, .ref m0), (1, .int (nI k)), (2, .int (nI t)), (3, .int 0)], [.int (nI t)], M)) rfl rfl rfl ?_
  refine ps_st (S' := (3, [(0, .ref m0), (1, .int (nI k)), (2, .int (nI t)), (3, .int 0)], [.int 7, .int (nI t)], M)) rfl rfl rfl ?_
  refine ps_if2 (S1 := (30, [(0, .ref m0), (1, .int (nI k))], [], M)) (S2 := (6, [(0, .ref m0), (1, .int (nI k)), (2, .int (nI t)), (3, .int 0)], [], M)) rfl rfl rfl (fun c_3 => ?_) (fun c_3 => ?_)
  · exact absurd (of_decide_eq_true c_3) (show ¬ ((nI t) = 7) from fun h9 => absurd ((eq_nI (p := t) (n := 7) (by omega) (by decide)).mp h9) (by omega))
  refine ps_st (S' := (7, [(0, .ref m0), (1, .int (nI k)), (2, .int (nI t)), (3, .int 0)], [.int (nI t)], M)) rfl rfl rfl ?_
  refine ps_st (S' := (9, [(0, .ref m0), (1, .int (nI k)), (2, .int (nI t)), (3, .int 0)], [.int 8, .int (nI t)], M)) rfl rfl rfl ?_
  refine ps_if2 (S1 := (30, [(0, .ref m0), (1, .int (nI k))], [], M)) (S2 := (12, [(0, .ref m0), (1, .int (nI k)), (2, .int (nI t)), (3, .int 0)], [], M)) rfl rfl rfl (fun c_9 => ?_) (fun c_9 => ?_)
  · exact absurd (of_decide_eq_true c_9) (show ¬ ((nI t) = 8) from fun h9 => absurd ((eq_nI (p := t) (n := 8) (by omega) (by decide)).mp h9) (by omega))
  refine ps_st (S' := (13, [(0, .ref m0), (1, .int (nI k)), (2, .int (nI t)), (3, .int 0)], [.int (nI t)], M)) rfl rfl rfl ?_
  refine ps_st (S' := (15, [(0, .ref m0), (1, .int (nI k)), (2, .int (nI t)), (3, .int 0)], [.int 16, .int (nI t)], M)) rfl rfl rfl ?_
  refine ps_if2 (S1 := (30, [(0, .ref m0), (1, .int (nI k))], [], M)) (S2 := (18, [(0, .ref m0), (1, .int (nI k)), (2, .int (nI t)), (3, .int 0)], [], M)) rfl rfl rfl (fun c_15 => ?_) (fun c_15 => ?_)
  · exact absurd (of_decide_eq_true c_15) (show ¬ ((nI t) = 16) from fun h9 => absurd ((eq_nI (p := t) (n := 16) (by omega) (by decide)).mp h9) (by omega))
  refine ps_st (S' := (19, [(0, .ref m0), (1, .int (nI k)), (2, .int (nI t)), (3, .int 0)], [.int (nI t)], M)) rfl rfl rfl ?_
  refine ps_st (S' := (21, [(0, .ref m0), (1, .int (nI k)), (2, .int (nI t)), (3, .int 0)], [.int 19, .int (nI t)], M)) rfl rfl rfl ?_
  refine ps_if2 (S1 := (30, [(0, .ref m0), (1, .int (nI k))], [], M)) (S2 := (24, [(0, .ref m0), (1, .int (nI k)), (2, .int (nI t)), (3, .int 0)], [], M)) rfl rfl rfl (fun c_21 => ?_) (fun c_21 => ?_)
  · exact absurd (of_decide_eq_true c_21) (show ¬ ((nI t) = 19) from fun h9 => absurd ((eq_nI (p := t) (n := 19) (by omega) (by decide)).mp h9) (by omega))
  refine ps_st (S' := (25, [(0, .ref m0), (1, .int (nI k)), (2, .int (nI t)), (3, .int 0)], [.int (nI t)], M)) rfl rfl rfl ?_
  refine ps_st (S' := (27, [(0, .ref m0), (1, .int (nI k)), (2, .int (nI t)), (3, .int 0)], [.int 20, .int (nI t)], M)) rfl rfl rfl ?_
  refine ps_if2 (S1 := (50, [(0, .ref m0), (1, .int (nI k)), (2, .int (nI t)), (3, .int 0)], [], M)) (S2 := (30, [(0, .ref m0), (1, .int (nI k))], [], M)) rfl rfl rfl (fun c_27 => ?_) (fun c_27 => ?_)
  rotate_left
  · exact absurd (show ¬ ((nI t) = 20) from fun h9 => absurd ((eq_nI (p := t) (n := 20) (by omega) (by decide)).mp h9) (by omega)) (of_decide_eq_false c_27)
  refine ps_st (S' := (51, [(0, .ref m0), (1, .int (nI k)), (2, .int (nI t)), (3, .int 0)], [.int (nI t)], M)) rfl rfl rfl ?_
  refine ps_st (S' := (53, [(0, .ref m0), (1, .int (nI k)), (2, .int (nI t)), (3, .int 0)], [.int 9, .int (nI t)], M)) rfl rfl rfl ?_
  refine ps_if2 (S1 := (130, [(0, .ref m0), (1, .int (nI k)), (2, .int (nI t))], [], M)) (S2 := (56, [(0, .ref m0), (1, .int (nI k)), (2, .int (nI t)), (3, .int 0)], [], M)) rfl rfl rfl (fun c_53 => ?_) (fun c_53 => ?_)
  · exact absurd (of_decide_eq_true c_53) (show ¬ ((nI t) < 9) from fun h9 => absurd ((lt_nI (p := t) (n := 9) (by omega) (by decide)).mp h9) (by omega))
  refine ps_st (S' := (57, [(0, .ref m0), (1, .int (nI k)), (2, .int (nI t)), (3, .int 0)], [.int (nI t)], M)) rfl rfl rfl ?_
  refine ps_st (S' := (59, [(0, .ref m0), (1, .int (nI k)), (2, .int (nI t)), (3, .int 0)], [.int 11, .int (nI t)], M)) rfl rfl rfl ?_
  refine ps_if2 (S1 := (130, [(0, .ref m0), (1, .int (nI k)), (2, .int (nI t))], [], M)) (S2 := (62, [(0, .ref m0), (1, .int (nI k)), (2, .int (nI t)), (3, .int 0)], [], M)) rfl rfl rfl (fun c_59 => ?_) (fun c_59 => ?_)
  · exact absurd (of_decide_eq_true c_59) (show ¬ (11 < (nI t)) from fun h9 => absurd ((lt_nI (p := 11) (n := t) (by decide) (by omega)).mp h9) (by omega))
  refine ps_st (S' := (63, [(0, .ref m0), (1, .int (nI k)), (2, .int (nI t)), (3, .int 0)], [.ref m0], M)) rfl rfl rfl ?_
  refine ps_st (S' := (64, [(0, .ref m0), (1, .int (nI k)), (2, .int (nI t)), (3, .int 0)], [.ref m0, .ref m0], M)) rfl rfl rfl ?_
  refine ps_st (S' := (65, [(0, .ref m0), (1, .int (nI k)), (2, .int (nI t)), (3, .int 0)], [.int (nI k), .ref m0, .ref m0], M)) rfl rfl rfl ?_
  refine ps_st (S' := (66, [(0, .ref m0), (1, .int (nI k)), (2, .int (nI t)), (3, .int 0)], [.int 1, .int (nI k), .ref m0, .ref m0], M)) rfl rfl rfl ?_
  refine pl_call (a := [.ref m0, .int (nI k), .int 1]) (rest := [.ref m0]) rfl rfl rfl (rd_idx1 (n := n) (f := f) (tx := tx) (cN := cN) (A := A) (N := N) (mj := mj) (E := E) (k := k) hR hi51 hi52 hi53 hF hY hP (hEP) (hN) (hmj) (by omega)) (fun v1 M2 q3 => ?_)
  obtain ⟨rfl, rfl⟩ := q3
  show pl _ _ _ (69, [(0, .ref m0), (1, .int (nI k)), (2, .int (nI t)), (3, .int 0)], [.int (nI (fi f E k)), .ref m0], M) _
  have hix_66 := fi_lt f E k
  refine pl_call (a := [.ref m0, .int (nI (fi f E k))]) (rest := []) rfl rfl rfl (rd_tag (n := n) (f := f) (tx := tx) (cN := cN) (A := A) (N := N) (mj := mj) (E := E) (k := (fi f E k)) hR hi51 hi52 hi53 hF hY hP (hEP) (hN) (hmj) (fi_lt _ _ _)) (fun v4 M5 q6 => ?_)
  obtain ⟨rfl, rfl⟩ := q6
  show pl _ _ _ (72, [(0, .ref m0), (1, .int (nI k)), (2, .int (nI t)), (3, .int 0)], [.int (nI (tg f E (fi f E k)))], M) _
  have htg_69 := tg_lt f E (fi f E k)
  refine ps_st (S' := (74, [(0, .ref m0), (1, .int (nI k)), (2, .int (nI t)), (3, .int 0)], [.int 7, .int (nI (tg f E (fi f E k)))], M)) rfl rfl rfl ?_
  refine ps_if2 (S1 := (128, [], [], M)) (S2 := (77, [(0, .ref m0), (1, .int (nI k)), (2, .int (nI t)), (3, .int 0)], [], M)) rfl rfl rfl (fun c_74 => ?_) (fun c_74 => ?_)
  · have c_74 : ¬ (nI (tg f E (fi f E k))) = 7 := of_decide_eq_true c_74
    have n_74 : ¬ (tg f E (fi f E k) = 7) := fun h9 => c_74 ((eq_nI (p := tg f E (fi f E k)) (n := 7) (Nat.lt_trans (tg_lt _ _ _) (by decide)) (by decide)).mpr h9)
    refine ps_st (S' := (129, [], [.int 0], M)) rfl rfl rfl ?_
    exact ps_ret rfl rfl (⟨congrArg (fun x => some (Value.int (nI x))) (show 0 = memN f E k from by
        have e7 := lnk_7 (f := f) (E := E) (k := fi f E k)
        have e10 := mem_9 (f := f) (E := E) (k := k)
        have e11 := pair_9 (f := f) (E := E) (k := se f E k)
        have b2 := le1_mem f E k
        omega), rfl⟩)
  · have c_74 : ¬ (¬ (nI (tg f E (fi f E k))) = 7) := of_decide_eq_false c_74
    have n_74 : tg f E (fi f E k) = 7 := (eq_nI (p := tg f E (fi f E k)) (n := 7) (Nat.lt_trans (tg_lt _ _ _) (by decide)) (by decide)).mp (Decidable.not_not.mp c_74)
    refine ps_st (S' := (78, [(0, .ref m0), (1, .int (nI k)), (2, .int (nI t)), (3, .int 0)], [.ref m0], M)) rfl rfl rfl ?_
    refine ps_st (S' := (79, [(0, .ref m0), (1, .int (nI k)), (2, .int (nI t)), (3, .int 0)], [.ref m0, .ref m0], M)) rfl rfl rfl ?_
    refine ps_st (S' := (80, [(0, .ref m0), (1, .int (nI k)), (2, .int (nI t)), (3, .int 0)], [.int (nI k), .ref m0, .ref m0], M)) rfl rfl rfl ?_
    refine ps_st (S' := (81, [(0, .ref m0), (1, .int (nI k)), (2, .int (nI t)), (3, .int 0)], [.int 1, .int (nI k), .ref m0, .ref m0], M)) rfl rfl rfl ?_
    refine pl_call (a := [.ref m0, .int (nI k), .int 1]) (rest := [.ref m0]) rfl rfl rfl (rd_idx1 (n := n) (f := f) (tx := tx) (cN := cN) (A := A) (N := N) (mj := mj) (E := E) (k := k) hR hi51 hi52 hi53 hF hY hP (hEP) (hN) (hmj) (by omega)) (fun v7 M8 q9 => ?_)
    obtain ⟨rfl, rfl⟩ := q9
    show pl _ _ _ (84, [(0, .ref m0), (1, .int (nI k)), (2, .int (nI t)), (3, .int 0)], [.int (nI (fi f E k)), .ref m0], M) _
    have hix_81 := fi_lt f E k
    refine ps_st (S' := (86, [(0, .ref m0), (1, .int (nI k)), (2, .int (nI t)), (3, .int 0)], [.int 7, .int (nI (fi f E k)), .ref m0], M)) rfl rfl rfl ?_
    refine ps_st (S' := (87, [(0, .ref m0), (1, .int (nI k)), (2, .int (nI t)), (3, .int 0)], [.int 0, .int 7, .int (nI (fi f E k)), .ref m0], M)) rfl rfl rfl ?_
    refine pl_call (a := [.ref m0, .int (nI (fi f E k)), .int 7, .int 0]) (rest := []) rfl rfl rfl (rd_ix7 (n := n) (f := f) (tx := tx) (cN := cN) (A := A) (N := N) (mj := mj) (E := E) (k := (fi f E k)) hR hi51 hi52 hi53 hF hY hP (hEP) (hN) (hmj) (by omega)) (fun v10 M11 q12 => ?_)
    obtain ⟨rfl, rfl⟩ := q12
    show pl _ _ _ (90, [(0, .ref m0), (1, .int (nI k)), (2, .int (nI t)), (3, .int 0)], [.int (nI (lnkN f E (fi f E k)))], M) _
    refine ps_if (S1 := (128, [], [], M)) (S2 := (93, [(0, .ref m0), (1, .int (nI k)), (2, .int (nI t)), (3, .int 0)], [], M)) rfl rfl rfl (fun c_90 => ?_) (fun c_90 => ?_)
    · have c_90 : (nI (lnkN f E (fi f E k))) = 0 := of_decide_eq_true c_90
      have n_90 : lnkN f E (fi f E k) = 0 := (eq_nI (p := lnkN f E (fi f E k)) (n := 0) (Nat.lt_trans (le1_lnk _ _ _) (by decide)) (by decide)).mp c_90
      refine ps_st (S' := (129, [], [.int 0], M)) rfl rfl rfl ?_
      exact ps_ret rfl rfl (⟨congrArg (fun x => some (Value.int (nI x))) (show 0 = memN f E k from by
          have e7 := lnk_7 (f := f) (E := E) (k := fi f E k)
          have e10 := mem_9 (f := f) (E := E) (k := k)
          have e11 := pair_9 (f := f) (E := E) (k := se f E k)
          have b2 := le1_mem f E k
          omega), rfl⟩)
    · have c_90 : ¬ ((nI (lnkN f E (fi f E k))) = 0) := of_decide_eq_false c_90
      have n_90 : ¬ (lnkN f E (fi f E k) = 0) := fun h9 => c_90 ((eq_nI (p := lnkN f E (fi f E k)) (n := 0) (Nat.lt_trans (le1_lnk _ _ _) (by decide)) (by decide)).mpr h9)
      refine ps_st (S' := (94, [(0, .ref m0), (1, .int (nI k)), (2, .int (nI t)), (3, .int 0)], [.ref m0], M)) rfl rfl rfl ?_
      refine ps_st (S' := (95, [(0, .ref m0), (1, .int (nI k)), (2, .int (nI t)), (3, .int 0)], [.ref m0, .ref m0], M)) rfl rfl rfl ?_
      refine ps_st (S' := (96, [(0, .ref m0), (1, .int (nI k)), (2, .int (nI t)), (3, .int 0)], [.int (nI k), .ref m0, .ref m0], M)) rfl rfl rfl ?_
      refine ps_st (S' := (97, [(0, .ref m0), (1, .int (nI k)), (2, .int (nI t)), (3, .int 0)], [.int 3, .int (nI k), .ref m0, .ref m0], M)) rfl rfl rfl ?_
      refine pl_call (a := [.ref m0, .int (nI k), .int 3]) (rest := [.ref m0]) rfl rfl rfl (rd_idx3 (n := n) (f := f) (tx := tx) (cN := cN) (A := A) (N := N) (mj := mj) (E := E) (k := k) hR hi51 hi52 hi53 hF hY hP (hEP) (hN) (hmj) (by omega)) (fun v13 M14 q15 => ?_)
      obtain ⟨rfl, rfl⟩ := q15
      show pl _ _ _ (100, [(0, .ref m0), (1, .int (nI k)), (2, .int (nI t)), (3, .int 0)], [.int (nI (se f E k)), .ref m0], M) _
      have hix_97 := se_lt f E k
      refine pl_call (a := [.ref m0, .int (nI (se f E k))]) (rest := []) rfl rfl rfl (rd_tag (n := n) (f := f) (tx := tx) (cN := cN) (A := A) (N := N) (mj := mj) (E := E) (k := (se f E k)) hR hi51 hi52 hi53 hF hY hP (hEP) (hN) (hmj) (se_lt _ _ _)) (fun v16 M17 q18 => ?_)
      obtain ⟨rfl, rfl⟩ := q18
      show pl _ _ _ (103, [(0, .ref m0), (1, .int (nI k)), (2, .int (nI t)), (3, .int 0)], [.int (nI (tg f E (se f E k)))], M) _
      have htg_100 := tg_lt f E (se f E k)
      refine ps_st (S' := (105, [(0, .ref m0), (1, .int (nI k)), (2, .int (nI t)), (3, .int 0)], [.int 12, .int (nI (tg f E (se f E k)))], M)) rfl rfl rfl ?_
      refine ps_if2 (S1 := (128, [], [], M)) (S2 := (108, [(0, .ref m0), (1, .int (nI k)), (2, .int (nI t)), (3, .int 0)], [], M)) rfl rfl rfl (fun c_105 => ?_) (fun c_105 => ?_)
      · have c_105 : ¬ (nI (tg f E (se f E k))) = 12 := of_decide_eq_true c_105
        have n_105 : ¬ (tg f E (se f E k) = 12) := fun h9 => c_105 ((eq_nI (p := tg f E (se f E k)) (n := 12) (Nat.lt_trans (tg_lt _ _ _) (by decide)) (by decide)).mpr h9)
        refine ps_st (S' := (129, [], [.int 0], M)) rfl rfl rfl ?_
        exact ps_ret rfl rfl (⟨congrArg (fun x => some (Value.int (nI x))) (show 0 = memN f E k from by
            have e7 := lnk_7 (f := f) (E := E) (k := fi f E k)
            have e10 := mem_9 (f := f) (E := E) (k := k)
            have e11 := pair_9 (f := f) (E := E) (k := se f E k)
            have b2 := le1_mem f E k
            omega), rfl⟩)
      · have c_105 : ¬ (¬ (nI (tg f E (se f E k))) = 12) := of_decide_eq_false c_105
        have n_105 : tg f E (se f E k) = 12 := (eq_nI (p := tg f E (se f E k)) (n := 12) (Nat.lt_trans (tg_lt _ _ _) (by decide)) (by decide)).mp (Decidable.not_not.mp c_105)
        refine ps_st (S' := (109, [(0, .ref m0), (1, .int (nI k)), (2, .int (nI t)), (3, .int 0)], [.ref m0], M)) rfl rfl rfl ?_
        refine ps_st (S' := (110, [(0, .ref m0), (1, .int (nI k)), (2, .int (nI t)), (3, .int 0)], [.ref m0, .ref m0], M)) rfl rfl rfl ?_
        refine ps_st (S' := (111, [(0, .ref m0), (1, .int (nI k)), (2, .int (nI t)), (3, .int 0)], [.int (nI k), .ref m0, .ref m0], M)) rfl rfl rfl ?_
        refine ps_st (S' := (112, [(0, .ref m0), (1, .int (nI k)), (2, .int (nI t)), (3, .int 0)], [.int 3, .int (nI k), .ref m0, .ref m0], M)) rfl rfl rfl ?_
        refine pl_call (a := [.ref m0, .int (nI k), .int 3]) (rest := [.ref m0]) rfl rfl rfl (rd_idx3 (n := n) (f := f) (tx := tx) (cN := cN) (A := A) (N := N) (mj := mj) (E := E) (k := k) hR hi51 hi52 hi53 hF hY hP (hEP) (hN) (hmj) (by omega)) (fun v19 M20 q21 => ?_)
        obtain ⟨rfl, rfl⟩ := q21
        show pl _ _ _ (115, [(0, .ref m0), (1, .int (nI k)), (2, .int (nI t)), (3, .int 0)], [.int (nI (se f E k)), .ref m0], M) _
        have hix_112 := se_lt f E k
        refine ps_st (S' := (117, [(0, .ref m0), (1, .int (nI k)), (2, .int (nI t)), (3, .int 0)], [.int 12, .int (nI (se f E k)), .ref m0], M)) rfl rfl rfl ?_
        refine ps_st (S' := (118, [(0, .ref m0), (1, .int (nI k)), (2, .int (nI t)), (3, .int 0)], [.int 0, .int 12, .int (nI (se f E k)), .ref m0], M)) rfl rfl rfl ?_
        refine pl_call (a := [.ref m0, .int (nI (se f E k)), .int 12, .int 0]) (rest := []) rfl rfl rfl (rd_ix12 (n := n) (f := f) (tx := tx) (cN := cN) (A := A) (N := N) (mj := mj) (E := E) (k := (se f E k)) hR hi51 hi52 hi53 hF hY hP (hEP) (hN) (hmj) (by omega)) (fun v22 M23 q24 => ?_)
        obtain ⟨rfl, rfl⟩ := q24
        show pl _ _ _ (121, [(0, .ref m0), (1, .int (nI k)), (2, .int (nI t)), (3, .int 0)], [.int (nI (pairN f E (se f E k)))], M) _
        refine ps_if (S1 := (128, [], [], M)) (S2 := (124, [(0, .ref m0), (1, .int (nI k)), (2, .int (nI t)), (3, .int 0)], [], M)) rfl rfl rfl (fun c_121 => ?_) (fun c_121 => ?_)
        · have c_121 : (nI (pairN f E (se f E k))) = 0 := of_decide_eq_true c_121
          have n_121 : pairN f E (se f E k) = 0 := (eq_nI (p := pairN f E (se f E k)) (n := 0) (Nat.lt_trans (le1_pair _ _ _) (by decide)) (by decide)).mp c_121
          refine ps_st (S' := (129, [], [.int 0], M)) rfl rfl rfl ?_
          exact ps_ret rfl rfl (⟨congrArg (fun x => some (Value.int (nI x))) (show 0 = memN f E k from by
              have e7 := lnk_7 (f := f) (E := E) (k := fi f E k)
              have e10 := mem_9 (f := f) (E := E) (k := k)
              have e11 := pair_9 (f := f) (E := E) (k := se f E k)
              have b2 := le1_mem f E k
              omega), rfl⟩)
        · have c_121 : ¬ ((nI (pairN f E (se f E k))) = 0) := of_decide_eq_false c_121
          have n_121 : ¬ (pairN f E (se f E k) = 0) := fun h9 => c_121 ((eq_nI (p := pairN f E (se f E k)) (n := 0) (Nat.lt_trans (le1_pair _ _ _) (by decide)) (by decide)).mpr h9)
          refine ps_st (S' := (125, [(0, .ref m0), (1, .int (nI k)), (2, .int (nI t)), (3, .int 0)], [.int 1], M)) rfl rfl rfl ?_
          refine ps_st (S' := (129, [], [.int 1], M)) rfl rfl rfl ?_
          exact ps_ret rfl rfl (⟨congrArg (fun x => some (Value.int (nI x))) (show 1 = memN f E k from by
              have e7 := lnk_7 (f := f) (E := E) (k := fi f E k)
              have e10 := mem_9 (f := f) (E := E) (k := k)
              have e11 := pair_9 (f := f) (E := E) (k := se f E k)
              have b2 := le1_mem f E k
              omega), rfl⟩)
set_option maxHeartbeats 1000000 in
theorem rd_indexes {g : xe_G} {m0 : Nat} {q : Nat → Nat} {z : Nat × Nat} {I : rI} {R : rR} {M : mi_H} {n : Nat} {f : Nat → Int32} {tx : List (List Nat)} {cN : Nat} {A : Nat → Nat} {N mj : Nat} {E : List (Nat × Nat)} {k t : Nat} (hR : RS g m0 q z I R M) (hi51 : I 51 = some 0) (hi52 : I 52 = some (nI N)) (hi53 : I 53 = some (nI mj)) (hF : FK n f I R) (hY : SYT tx cN A I R) (hP : RPV f n E tx N I R) (hEP : EP f n E) (hN : N < 65536) (hmj : mj < 65536) (ht : tg f E k = t) (ht2 : t < 256) (ht3 : ¬ t = 0) : pt (mT g) 214 [.ref m0, .int (nI k), .int (nI t), .int 1] M (fun v M' => (v = some (.int (nI (lnkN f E k))) ∧ M = M')) := by
  refine pt_in (b := mb_214 g) rfl (fun kf => ?_)
  show pl (mT g) kf (mb_214 g).2 (0, [(0, .ref m0), (1, .int (nI k)), (2, .int (nI t)), (3, .int 1)], [], M) _
  have hn := hF.1
  refine ps_st (S' := (1, [(0, .ref m0), (1, .int (nI k)), (2, .int (nI t)), (3, .int 1)], [.int (nI t)], M)) rfl rfl rfl ?_
  refine ps_st (S' := (3, [(0, .ref m0), (1, .int (nI k)), (2, .int (nI t)), (3, .int 1)], [.int 7, .int (nI t)], M)) rfl rfl rfl ?_
  refine ps_if2 (S1 := (30, [(0, .ref m0), (1, .int (nI k))], [], M)) (S2 := (6, [(0, .ref m0), (1, .int (nI k)), (2, .int (nI t)), (3, .int 1)], [], M)) rfl rfl rfl (fun c_3 => ?_) (fun c_3 => ?_)
  · have c_3 : (nI t) = 7 := of_decide_eq_true c_3
    have n_3 : t = 7 := (eq_nI (p := t) (n := 7) (by omega) (by decide)).mp c_3
    refine ps_st (S' := (31, [(0, .ref m0), (1, .int (nI k))], [.ref m0], M)) rfl rfl rfl ?_
    refine ps_st (S' := (32, [(0, .ref m0), (1, .int (nI k))], [.ref m0, .ref m0], M)) rfl rfl rfl ?_
    refine ps_st (S' := (33, [(0, .ref m0), (1, .int (nI k))], [.int (nI k), .ref m0, .ref m0], M)) rfl rfl rfl ?_
    refine ps_st (S' := (34, [(0, .ref m0), (1, .int (nI k))], [.int 1, .int (nI k), .ref m0, .ref m0], M)) rfl rfl rfl ?_
    refine pl_call (a := [.ref m0, .int (nI k), .int 1]) (rest := [.ref m0]) rfl rfl rfl (rd_idx1 (n := n) (f := f) (tx := tx) (cN := cN) (A := A) (N := N) (mj := mj) (E := E) (k := k) hR hi51 hi52 hi53 hF hY hP (hEP) (hN) (hmj) (by omega)) (fun v1 M2 q3 => ?_)
    obtain ⟨rfl, rfl⟩ := q3
    show pl _ _ _ (37, [(0, .ref m0), (1, .int (nI k))], [.int (nI (fi f E k)), .ref m0], M) _
    have hix_34 := fi_lt f E k
    refine pl_call (a := [.ref m0, .int (nI (fi f E k))]) (rest := []) rfl rfl rfl (rd_tag (n := n) (f := f) (tx := tx) (cN := cN) (A := A) (N := N) (mj := mj) (E := E) (k := (fi f E k)) hR hi51 hi52 hi53 hF hY hP (hEP) (hN) (hmj) (fi_lt _ _ _)) (fun v4 M5 q6 => ?_)
    obtain ⟨rfl, rfl⟩ := q6
    show pl _ _ _ (40, [(0, .ref m0), (1, .int (nI k))], [.int (nI (tg f E (fi f E k)))], M) _
    have htg_37 := tg_lt f E (fi f E k)
    refine ps_st (S' := (41, [(0, .ref m0), (1, .int (nI k))], [.int 1, .int (nI (tg f E (fi f E k)))], M)) rfl rfl rfl ?_
    refine ps_if2 (S1 := (48, [(0, .ref m0), (1, .int (nI k))], [], M)) (S2 := (44, [(0, .ref m0), (1, .int (nI k))], [], M)) rfl rfl rfl (fun c_41 => ?_) (fun c_41 => ?_)
    · have c_41 : ¬ (nI (tg f E (fi f E k))) = 1 := of_decide_eq_true c_41
      have n_41 : ¬ (tg f E (fi f E k) = 1) := fun h9 => c_41 ((eq_nI (p := tg f E (fi f E k)) (n := 1) (Nat.lt_trans (tg_lt _ _ _) (by decide)) (by decide)).mpr h9)
      refine ps_st (S' := (49, [], [.int 0], M)) rfl rfl rfl ?_
      exact ps_ret rfl rfl (⟨congrArg (fun x => some (Value.int (nI x))) (show 0 = lnkN f E k from by
          unfold lnkN
          first | ((repeat first | rw [if_pos (by omega)] | rw [if_neg (by omega)]) <;> first | rfl | omega) | ((repeat' split) <;> first | rfl | (exfalso; omega) | omega)), rfl⟩)
    · have c_41 : ¬ (¬ (nI (tg f E (fi f E k))) = 1) := of_decide_eq_false c_41
      have n_41 : tg f E (fi f E k) = 1 := (eq_nI (p := tg f E (fi f E k)) (n := 1) (Nat.lt_trans (tg_lt _ _ _) (by decide)) (by decide)).mp (Decidable.not_not.mp c_41)
      refine ps_st (S' := (45, [(0, .ref m0), (1, .int (nI k))], [.int 1], M)) rfl rfl rfl ?_
      refine ps_st (S' := (49, [], [.int 1], M)) rfl rfl rfl ?_
      exact ps_ret rfl rfl (⟨congrArg (fun x => some (Value.int (nI x))) (show 1 = lnkN f E k from by
          unfold lnkN
          first | ((repeat first | rw [if_pos (by omega)] | rw [if_neg (by omega)]) <;> first | rfl | omega) | ((repeat' split) <;> first | rfl | (exfalso; omega) | omega)), rfl⟩)
  · have c_3 : ¬ ((nI t) = 7) := of_decide_eq_false c_3
    have n_3 : ¬ (t = 7) := fun h9 => c_3 ((eq_nI (p := t) (n := 7) (by omega) (by decide)).mpr h9)
    refine ps_st (S' := (7, [(0, .ref m0), (1, .int (nI k)), (2, .int (nI t)), (3, .int 1)], [.int (nI t)], M)) rfl rfl rfl ?_
    refine ps_st (S' := (9, [(0, .ref m0), (1, .int (nI k)), (2, .int (nI t)), (3, .int 1)], [.int 8, .int (nI t)], M)) rfl rfl rfl ?_
    refine ps_if2 (S1 := (30, [(0, .ref m0), (1, .int (nI k))], [], M)) (S2 := (12, [(0, .ref m0), (1, .int (nI k)), (2, .int (nI t)), (3, .int 1)], [], M)) rfl rfl rfl (fun c_9 => ?_) (fun c_9 => ?_)
    · have c_9 : (nI t) = 8 := of_decide_eq_true c_9
      have n_9 : t = 8 := (eq_nI (p := t) (n := 8) (by omega) (by decide)).mp c_9
      refine ps_st (S' := (31, [(0, .ref m0), (1, .int (nI k))], [.ref m0], M)) rfl rfl rfl ?_
      refine ps_st (S' := (32, [(0, .ref m0), (1, .int (nI k))], [.ref m0, .ref m0], M)) rfl rfl rfl ?_
      refine ps_st (S' := (33, [(0, .ref m0), (1, .int (nI k))], [.int (nI k), .ref m0, .ref m0], M)) rfl rfl rfl ?_
      refine ps_st (S' := (34, [(0, .ref m0), (1, .int (nI k))], [.int 1, .int (nI k), .ref m0, .ref m0], M)) rfl rfl rfl ?_
      refine pl_call (a := [.ref m0, .int (nI k), .int 1]) (rest := [.ref m0]) rfl rfl rfl (rd_idx1 (n := n) (f := f) (tx := tx) (cN := cN) (A := A) (N := N) (mj := mj) (E := E) (k := k) hR hi51 hi52 hi53 hF hY hP (hEP) (hN) (hmj) (by omega)) (fun v7 M8 q9 => ?_)
      obtain ⟨rfl, rfl⟩ := q9
      show pl _ _ _ (37, [(0, .ref m0), (1, .int (nI k))], [.int (nI (fi f E k)), .ref m0], M) _
      have hix_34 := fi_lt f E k
      refine pl_call (a := [.ref m0, .int (nI (fi f E k))]) (rest := []) rfl rfl rfl (rd_tag (n := n) (f := f) (tx := tx) (cN := cN) (A := A) (N := N) (mj := mj) (E := E) (k := (fi f E k)) hR hi51 hi52 hi53 hF hY hP (hEP) (hN) (hmj) (fi_lt _ _ _)) (fun v10 M11 q12 => ?_)
      obtain ⟨rfl, rfl⟩ := q12
      show pl _ _ _ (40, [(0, .ref m0), (1, .int (nI k))], [.int (nI (tg f E (fi f E k)))], M) _
      have htg_37 := tg_lt f E (fi f E k)
      refine ps_st (S' := (41, [(0, .ref m0), (1, .int (nI k))], [.int 1, .int (nI (tg f E (fi f E k)))], M)) rfl rfl rfl ?_
      refine ps_if2 (S1 := (48, [(0, .ref m0), (1, .int (nI k))], [], M)) (S2 := (44, [(0, .ref m0), (1, .int (nI k))], [], M)) rfl rfl rfl (fun c_41 => ?_) (fun c_41 => ?_)
      · have c_41 : ¬ (nI (tg f E (fi f E k))) = 1 := of_decide_eq_true c_41
        have n_41 : ¬ (tg f E (fi f E k) = 1) := fun h9 => c_41 ((eq_nI (p := tg f E (fi f E k)) (n := 1) (Nat.lt_trans (tg_lt _ _ _) (by decide)) (by decide)).mpr h9)
        refine ps_st (S' := (49, [], [.int 0], M)) rfl rfl rfl ?_
        exact ps_ret rfl rfl (⟨congrArg (fun x => some (Value.int (nI x))) (show 0 = lnkN f E k from by
            unfold lnkN
            first | ((repeat first | rw [if_pos (by omega)] | rw [if_neg (by omega)]) <;> first | rfl | omega) | ((repeat' split) <;> first | rfl | (exfalso; omega) | omega)), rfl⟩)
      · have c_41 : ¬ (¬ (nI (tg f E (fi f E k))) = 1) := of_decide_eq_false c_41
        have n_41 : tg f E (fi f E k) = 1 := (eq_nI (p := tg f E (fi f E k)) (n := 1) (Nat.lt_trans (tg_lt _ _ _) (by decide)) (by decide)).mp (Decidable.not_not.mp c_41)
        refine ps_st (S' := (45, [(0, .ref m0), (1, .int (nI k))], [.int 1], M)) rfl rfl rfl ?_
        refine ps_st (S' := (49, [], [.int 1], M)) rfl rfl rfl ?_
        exact ps_ret rfl rfl (⟨congrArg (fun x => some (Value.int (nI x))) (show 1 = lnkN f E k from by
            unfold lnkN
            first | ((repeat first | rw [if_pos (by omega)] | rw [if_neg (by omega)]) <;> first | rfl | omega) | ((repeat' split) <;> first | rfl | (exfalso; omega) | omega)), rfl⟩)
    · have c_9 : ¬ ((nI t) = 8) := of_decide_eq_false c_9
      have n_9 : ¬ (t = 8) := fun h9 => c_9 ((eq_nI (p := t) (n := 8) (by omega) (by decide)).mpr h9)
      refine ps_st (S' := (13, [(0, .ref m0), (1, .int (nI k)), (2, .int (nI t)), (3, .int 1)], [.int (nI t)], M)) rfl rfl rfl ?_
      refine ps_st (S' := (15, [(0, .ref m0), (1, .int (nI k)), (2, .int (nI t)), (3, .int 1)], [.int 16, .int (nI t)], M)) rfl rfl rfl ?_
      refine ps_if2 (S1 := (30, [(0, .ref m0), (1, .int (nI k))], [], M)) (S2 := (18, [(0, .ref m0), (1, .int (nI k)), (2, .int (nI t)), (3, .int 1)], [], M)) rfl rfl rfl (fun c_15 => ?_) (fun c_15 => ?_)
      · have c_15 : (nI t) = 16 := of_decide_eq_true c_15
        have n_15 : t = 16 := (eq_nI (p := t) (n := 16) (by omega) (by decide)).mp c_15
        refine ps_st (S' := (31, [(0, .ref m0), (1, .int (nI k))], [.ref m0], M)) rfl rfl rfl ?_
        refine ps_st (S' := (32, [(0, .ref m0), (1, .int (nI k))], [.ref m0, .ref m0], M)) rfl rfl rfl ?_
        refine ps_st (S' := (33, [(0, .ref m0), (1, .int (nI k))], [.int (nI k), .ref m0, .ref m0], M)) rfl rfl rfl ?_
        refine ps_st (S' := (34, [(0, .ref m0), (1, .int (nI k))], [.int 1, .int (nI k), .ref m0, .ref m0], M)) rfl rfl rfl ?_
        refine pl_call (a := [.ref m0, .int (nI k), .int 1]) (rest := [.ref m0]) rfl rfl rfl (rd_idx1 (n := n) (f := f) (tx := tx) (cN := cN) (A := A) (N := N) (mj := mj) (E := E) (k := k) hR hi51 hi52 hi53 hF hY hP (hEP) (hN) (hmj) (by omega)) (fun v13 M14 q15 => ?_)
        obtain ⟨rfl, rfl⟩ := q15
        show pl _ _ _ (37, [(0, .ref m0), (1, .int (nI k))], [.int (nI (fi f E k)), .ref m0], M) _
        have hix_34 := fi_lt f E k
        refine pl_call (a := [.ref m0, .int (nI (fi f E k))]) (rest := []) rfl rfl rfl (rd_tag (n := n) (f := f) (tx := tx) (cN := cN) (A := A) (N := N) (mj := mj) (E := E) (k := (fi f E k)) hR hi51 hi52 hi53 hF hY hP (hEP) (hN) (hmj) (fi_lt _ _ _)) (fun v16 M17 q18 => ?_)
        obtain ⟨rfl, rfl⟩ := q18
        show pl _ _ _ (40, [(0, .ref m0), (1, .int (nI k))], [.int (nI (tg f E (fi f E k)))], M) _
        have htg_37 := tg_lt f E (fi f E k)
        refine ps_st (S' := (41, [(0, .ref m0), (1, .int (nI k))], [.int 1, .int (nI (tg f E (fi f E k)))], M)) rfl rfl rfl ?_
        refine ps_if2 (S1 := (48, [(0, .ref m0), (1, .int (nI k))], [], M)) (S2 := (44, [(0, .ref m0), (1, .int (nI k))], [], M)) rfl rfl rfl (fun c_41 => ?_) (fun c_41 => ?_)
        · have c_41 : ¬ (nI (tg f E (fi f E k))) = 1 := of_decide_eq_true c_41
          have n_41 : ¬ (tg f E (fi f E k) = 1) := fun h9 => c_41 ((eq_nI (p := tg f E (fi f E k)) (n := 1) (Nat.lt_trans (tg_lt _ _ _) (by decide)) (by decide)).mpr h9)
          refine ps_st (S' := (49, [], [.int 0], M)) rfl rfl rfl ?_
          exact ps_ret rfl rfl (⟨congrArg (fun x => some (Value.int (nI x))) (show 0 = lnkN f E k from by
              unfold lnkN
              first | ((repeat first | rw [if_pos (by omega)] | rw [if_neg (by omega)]) <;> first | rfl | omega) | ((repeat' split) <;> first | rfl | (exfalso; omega) | omega)), rfl⟩)
        · have c_41 : ¬ (¬ (nI (tg f E (fi f E k))) = 1) := of_decide_eq_false c_41
          have n_41 : tg f E (fi f E k) = 1 := (eq_nI (p := tg f E (fi f E k)) (n := 1) (Nat.lt_trans (tg_lt _ _ _) (by decide)) (by decide)).mp (Decidable.not_not.mp c_41)
          refine ps_st (S' := (45, [(0, .ref m0), (1, .int (nI k))], [.int 1], M)) rfl rfl rfl ?_
          refine ps_st (S' := (49, [], [.int 1], M)) rfl rfl rfl ?_
          exact ps_ret rfl rfl (⟨congrArg (fun x => some (Value.int (nI x))) (show 1 = lnkN f E k from by
              unfold lnkN
              first | ((repeat first | rw [if_pos (by omega)] | rw [if_neg (by omega)]) <;> first | rfl | omega) | ((repeat' split) <;> first | rfl | (exfalso; omega) | omega)), rfl⟩)
      · have c_15 : ¬ ((nI t) = 16) := of_decide_eq_false c_15
        have n_15 : ¬ (t = 16) := fun h9 => c_15 ((eq_nI (p := t) (n := 16) (by omega) (by decide)).mpr h9)
        refine ps_st (S' := (19, [(0, .ref m0), (1, .int (nI k)), (2, .int (nI t)), (3, .int 1)], [.int (nI t)], M)) rfl rfl rfl ?_
        refine ps_st (S' := (21, [(0, .ref m0), (1, .int (nI k)), (2, .int (nI t)), (3, .int 1)], [.int 19, .int (nI t)], M)) rfl rfl rfl ?_
        refine ps_if2 (S1 := (30, [(0, .ref m0), (1, .int (nI k))], [], M)) (S2 := (24, [(0, .ref m0), (1, .int (nI k)), (2, .int (nI t)), (3, .int 1)], [], M)) rfl rfl rfl (fun c_21 => ?_) (fun c_21 => ?_)
        · have c_21 : (nI t) = 19 := of_decide_eq_true c_21
          have n_21 : t = 19 := (eq_nI (p := t) (n := 19) (by omega) (by decide)).mp c_21
          refine ps_st (S' := (31, [(0, .ref m0), (1, .int (nI k))], [.ref m0], M)) rfl rfl rfl ?_
          refine ps_st (S' := (32, [(0, .ref m0), (1, .int (nI k))], [.ref m0, .ref m0], M)) rfl rfl rfl ?_
          refine ps_st (S' := (33, [(0, .ref m0), (1, .int (nI k))], [.int (nI k), .ref m0, .ref m0], M)) rfl rfl rfl ?_
          refine ps_st (S' := (34, [(0, .ref m0), (1, .int (nI k))], [.int 1, .int (nI k), .ref m0, .ref m0], M)) rfl rfl rfl ?_
          refine pl_call (a := [.ref m0, .int (nI k), .int 1]) (rest := [.ref m0]) rfl rfl rfl (rd_idx1 (n := n) (f := f) (tx := tx) (cN := cN) (A := A) (N := N) (mj := mj) (E := E) (k := k) hR hi51 hi52 hi53 hF hY hP (hEP) (hN) (hmj) (by omega)) (fun v19 M20 q21 => ?_)
          obtain ⟨rfl, rfl⟩ := q21
          show pl _ _ _ (37, [(0, .ref m0), (1, .int (nI k))], [.int (nI (fi f E k)), .ref m0], M) _
          have hix_34 := fi_lt f E k
          refine pl_call (a := [.ref m0, .int (nI (fi f E k))]) (rest := []) rfl rfl rfl (rd_tag (n := n) (f := f) (tx := tx) (cN := cN) (A := A) (N := N) (mj := mj) (E := E) (k := (fi f E k)) hR hi51 hi52 hi53 hF hY hP (hEP) (hN) (hmj) (fi_lt _ _ _)) (fun v22 M23 q24 => ?_)
          obtain ⟨rfl, rfl⟩ := q24
          show pl _ _ _ (40, [(0, .ref m0), (1, .int (nI k))], [.int (nI (tg f E (fi f E k)))], M) _
          have htg_37 := tg_lt f E (fi f E k)
          refine ps_st (S' := (41, [(0, .ref m0), (1, .int (nI k))], [.int 1, .int (nI (tg f E (fi f E k)))], M)) rfl rfl rfl ?_
          refine ps_if2 (S1 := (48, [(0, .ref m0), (1, .int (nI k))], [], M)) (S2 := (44, [(0, .ref m0), (1, .int (nI k))], [], M)) rfl rfl rfl (fun c_41 => ?_) (fun c_41 => ?_)
          · have c_41 : ¬ (nI (tg f E (fi f E k))) = 1 := of_decide_eq_true c_41
            have n_41 : ¬ (tg f E (fi f E k) = 1) := fun h9 => c_41 ((eq_nI (p := tg f E (fi f E k)) (n := 1) (Nat.lt_trans (tg_lt _ _ _) (by decide)) (by decide)).mpr h9)
            refine ps_st (S' := (49, [], [.int 0], M)) rfl rfl rfl ?_
            exact ps_ret rfl rfl (⟨congrArg (fun x => some (Value.int (nI x))) (show 0 = lnkN f E k from by
                unfold lnkN
                first | ((repeat first | rw [if_pos (by omega)] | rw [if_neg (by omega)]) <;> first | rfl | omega) | ((repeat' split) <;> first | rfl | (exfalso; omega) | omega)), rfl⟩)
          · have c_41 : ¬ (¬ (nI (tg f E (fi f E k))) = 1) := of_decide_eq_false c_41
            have n_41 : tg f E (fi f E k) = 1 := (eq_nI (p := tg f E (fi f E k)) (n := 1) (Nat.lt_trans (tg_lt _ _ _) (by decide)) (by decide)).mp (Decidable.not_not.mp c_41)
            refine ps_st (S' := (45, [(0, .ref m0), (1, .int (nI k))], [.int 1], M)) rfl rfl rfl ?_
            refine ps_st (S' := (49, [], [.int 1], M)) rfl rfl rfl ?_
            exact ps_ret rfl rfl (⟨congrArg (fun x => some (Value.int (nI x))) (show 1 = lnkN f E k from by
                unfold lnkN
                first | ((repeat first | rw [if_pos (by omega)] | rw [if_neg (by omega)]) <;> first | rfl | omega) | ((repeat' split) <;> first | rfl | (exfalso; omega) | omega)), rfl⟩)
        · have c_21 : ¬ ((nI t) = 19) := of_decide_eq_false c_21
          have n_21 : ¬ (t = 19) := fun h9 => c_21 ((eq_nI (p := t) (n := 19) (by omega) (by decide)).mpr h9)
          refine ps_st (S' := (25, [(0, .ref m0), (1, .int (nI k)), (2, .int (nI t)), (3, .int 1)], [.int (nI t)], M)) rfl rfl rfl ?_
          refine ps_st (S' := (27, [(0, .ref m0), (1, .int (nI k)), (2, .int (nI t)), (3, .int 1)], [.int 20, .int (nI t)], M)) rfl rfl rfl ?_
          refine ps_if2 (S1 := (50, [(0, .ref m0), (1, .int (nI k)), (2, .int (nI t)), (3, .int 1)], [], M)) (S2 := (30, [(0, .ref m0), (1, .int (nI k))], [], M)) rfl rfl rfl (fun c_27 => ?_) (fun c_27 => ?_)
          · have c_27 : ¬ (nI t) = 20 := of_decide_eq_true c_27
            have n_27 : ¬ (t = 20) := fun h9 => c_27 ((eq_nI (p := t) (n := 20) (by omega) (by decide)).mpr h9)
            refine ps_st (S' := (51, [(0, .ref m0), (1, .int (nI k)), (2, .int (nI t)), (3, .int 1)], [.int (nI t)], M)) rfl rfl rfl ?_
            refine ps_st (S' := (53, [(0, .ref m0), (1, .int (nI k)), (2, .int (nI t)), (3, .int 1)], [.int 9, .int (nI t)], M)) rfl rfl rfl ?_
            refine ps_if2 (S1 := (130, [(0, .ref m0), (1, .int (nI k)), (2, .int (nI t))], [], M)) (S2 := (56, [(0, .ref m0), (1, .int (nI k)), (2, .int (nI t)), (3, .int 1)], [], M)) rfl rfl rfl (fun c_53 => ?_) (fun c_53 => ?_)
            · have c_53 : (nI t) < 9 := of_decide_eq_true c_53
              have n_53 : t < 9 := (lt_nI (p := t) (n := 9) (by omega) (by decide)).mp c_53
              refine ps_st (S' := (131, [(0, .ref m0), (1, .int (nI k)), (2, .int (nI t))], [.int (nI t)], M)) rfl rfl rfl ?_
              refine ps_st (S' := (133, [(0, .ref m0), (1, .int (nI k)), (2, .int (nI t))], [.int 12, .int (nI t)], M)) rfl rfl rfl ?_
              refine ps_if2 (S1 := (170, [(0, .ref m0), (1, .int (nI k)), (2, .int (nI t))], [], M)) (S2 := (136, [(0, .ref m0), (1, .int (nI k)), (2, .int (nI t))], [], M)) rfl rfl rfl (fun c_133 => ?_) (fun c_133 => ?_)
              rotate_left
              · exact absurd (show ¬ ((nI t) = 12) from fun h9 => absurd ((eq_nI (p := t) (n := 12) (by omega) (by decide)).mp h9) (by omega)) (of_decide_eq_false c_133)
              refine ps_st (S' := (171, [(0, .ref m0), (1, .int (nI k)), (2, .int (nI t))], [.int (nI t)], M)) rfl rfl rfl ?_
              refine ps_st (S' := (173, [(0, .ref m0), (1, .int (nI k)), (2, .int (nI t))], [.int 15, .int (nI t)], M)) rfl rfl rfl ?_
              refine ps_if2 (S1 := (229, [(0, .ref m0), (1, .int (nI k)), (2, .int (nI t))], [], M)) (S2 := (176, [(0, .ref m0), (1, .int (nI k)), (2, .int (nI t))], [], M)) rfl rfl rfl (fun c_173 => ?_) (fun c_173 => ?_)
              rotate_left
              · exact absurd (show ¬ ((nI t) = 15) from fun h9 => absurd ((eq_nI (p := t) (n := 15) (by omega) (by decide)).mp h9) (by omega)) (of_decide_eq_false c_173)
              refine ps_st (S' := (230, [(0, .ref m0), (1, .int (nI k)), (2, .int (nI t))], [.int (nI t)], M)) rfl rfl rfl ?_
              refine ps_st (S' := (232, [(0, .ref m0), (1, .int (nI k)), (2, .int (nI t))], [.int 17, .int (nI t)], M)) rfl rfl rfl ?_
              refine ps_if2 (S1 := (241, [(0, .ref m0), (1, .int (nI k))], [], M)) (S2 := (235, [(0, .ref m0), (1, .int (nI k)), (2, .int (nI t))], [], M)) rfl rfl rfl (fun c_232 => ?_) (fun c_232 => ?_)
              · exact absurd (of_decide_eq_true c_232) (show ¬ ((nI t) = 17) from fun h9 => absurd ((eq_nI (p := t) (n := 17) (by omega) (by decide)).mp h9) (by omega))
              refine ps_st (S' := (236, [(0, .ref m0), (1, .int (nI k)), (2, .int (nI t))], [.int (nI t)], M)) rfl rfl rfl ?_
              refine ps_st (S' := (238, [(0, .ref m0), (1, .int (nI k)), (2, .int (nI t))], [.int 18, .int (nI t)], M)) rfl rfl rfl ?_
              refine ps_if2 (S1 := (278, [(0, .ref m0), (1, .int (nI k)), (2, .int (nI t))], [], M)) (S2 := (241, [(0, .ref m0), (1, .int (nI k))], [], M)) rfl rfl rfl (fun c_238 => ?_) (fun c_238 => ?_)
              rotate_left
              · exact absurd (show ¬ ((nI t) = 18) from fun h9 => absurd ((eq_nI (p := t) (n := 18) (by omega) (by decide)).mp h9) (by omega)) (of_decide_eq_false c_238)
              refine ps_st (S' := (279, [(0, .ref m0), (1, .int (nI k)), (2, .int (nI t))], [.int 1], M)) rfl rfl rfl ?_
              exact ps_ret rfl rfl (⟨congrArg (fun x => some (Value.int (nI x))) (show 1 = lnkN f E k from by
                  unfold lnkN
                  first | ((repeat first | rw [if_pos (by omega)] | rw [if_neg (by omega)]) <;> first | rfl | omega) | ((repeat' split) <;> first | rfl | (exfalso; omega) | omega)), rfl⟩)
            · have c_53 : ¬ ((nI t) < 9) := of_decide_eq_false c_53
              have n_53 : ¬ (t < 9) := fun h9 => c_53 ((lt_nI (p := t) (n := 9) (by omega) (by decide)).mpr h9)
              refine ps_st (S' := (57, [(0, .ref m0), (1, .int (nI k)), (2, .int (nI t)), (3, .int 1)], [.int (nI t)], M)) rfl rfl rfl ?_
              refine ps_st (S' := (59, [(0, .ref m0), (1, .int (nI k)), (2, .int (nI t)), (3, .int 1)], [.int 11, .int (nI t)], M)) rfl rfl rfl ?_
              refine ps_if2 (S1 := (130, [(0, .ref m0), (1, .int (nI k)), (2, .int (nI t))], [], M)) (S2 := (62, [(0, .ref m0), (1, .int (nI k)), (2, .int (nI t)), (3, .int 1)], [], M)) rfl rfl rfl (fun c_59 => ?_) (fun c_59 => ?_)
              · have c_59 : 11 < (nI t) := of_decide_eq_true c_59
                have n_59 : 11 < t := (lt_nI (p := 11) (n := t) (by decide) (by omega)).mp c_59
                refine ps_st (S' := (131, [(0, .ref m0), (1, .int (nI k)), (2, .int (nI t))], [.int (nI t)], M)) rfl rfl rfl ?_
                refine ps_st (S' := (133, [(0, .ref m0), (1, .int (nI k)), (2, .int (nI t))], [.int 12, .int (nI t)], M)) rfl rfl rfl ?_
                refine ps_if2 (S1 := (170, [(0, .ref m0), (1, .int (nI k)), (2, .int (nI t))], [], M)) (S2 := (136, [(0, .ref m0), (1, .int (nI k)), (2, .int (nI t))], [], M)) rfl rfl rfl (fun c_133 => ?_) (fun c_133 => ?_)
                · have c_133 : ¬ (nI t) = 12 := of_decide_eq_true c_133
                  have n_133 : ¬ (t = 12) := fun h9 => c_133 ((eq_nI (p := t) (n := 12) (by omega) (by decide)).mpr h9)
                  refine ps_st (S' := (171, [(0, .ref m0), (1, .int (nI k)), (2, .int (nI t))], [.int (nI t)], M)) rfl rfl rfl ?_
                  refine ps_st (S' := (173, [(0, .ref m0), (1, .int (nI k)), (2, .int (nI t))], [.int 15, .int (nI t)], M)) rfl rfl rfl ?_
                  refine ps_if2 (S1 := (229, [(0, .ref m0), (1, .int (nI k)), (2, .int (nI t))], [], M)) (S2 := (176, [(0, .ref m0), (1, .int (nI k)), (2, .int (nI t))], [], M)) rfl rfl rfl (fun c_173 => ?_) (fun c_173 => ?_)
                  · have c_173 : ¬ (nI t) = 15 := of_decide_eq_true c_173
                    have n_173 : ¬ (t = 15) := fun h9 => c_173 ((eq_nI (p := t) (n := 15) (by omega) (by decide)).mpr h9)
                    refine ps_st (S' := (230, [(0, .ref m0), (1, .int (nI k)), (2, .int (nI t))], [.int (nI t)], M)) rfl rfl rfl ?_
                    refine ps_st (S' := (232, [(0, .ref m0), (1, .int (nI k)), (2, .int (nI t))], [.int 17, .int (nI t)], M)) rfl rfl rfl ?_
                    refine ps_if2 (S1 := (241, [(0, .ref m0), (1, .int (nI k))], [], M)) (S2 := (235, [(0, .ref m0), (1, .int (nI k)), (2, .int (nI t))], [], M)) rfl rfl rfl (fun c_232 => ?_) (fun c_232 => ?_)
                    · have c_232 : (nI t) = 17 := of_decide_eq_true c_232
                      have n_232 : t = 17 := (eq_nI (p := t) (n := 17) (by omega) (by decide)).mp c_232
                      refine ps_st (S' := (242, [(0, .ref m0), (1, .int (nI k))], [.ref m0], M)) rfl rfl rfl ?_
                      refine ps_st (S' := (243, [(0, .ref m0), (1, .int (nI k))], [.ref m0, .ref m0], M)) rfl rfl rfl ?_
                      refine ps_st (S' := (244, [(0, .ref m0), (1, .int (nI k))], [.int (nI k), .ref m0, .ref m0], M)) rfl rfl rfl ?_
                      refine ps_st (S' := (245, [(0, .ref m0), (1, .int (nI k))], [.int 3, .int (nI k), .ref m0, .ref m0], M)) rfl rfl rfl ?_
                      refine pl_call (a := [.ref m0, .int (nI k), .int 3]) (rest := [.ref m0]) rfl rfl rfl (rd_idx3 (n := n) (f := f) (tx := tx) (cN := cN) (A := A) (N := N) (mj := mj) (E := E) (k := k) hR hi51 hi52 hi53 hF hY hP (hEP) (hN) (hmj) (by omega)) (fun v25 M26 q27 => ?_)
                      obtain ⟨rfl, rfl⟩ := q27
                      show pl _ _ _ (248, [(0, .ref m0), (1, .int (nI k))], [.int (nI (se f E k)), .ref m0], M) _
                      have hix_245 := se_lt f E k
                      refine pl_call (a := [.ref m0, .int (nI (se f E k))]) (rest := []) rfl rfl rfl (rd_tag (n := n) (f := f) (tx := tx) (cN := cN) (A := A) (N := N) (mj := mj) (E := E) (k := (se f E k)) hR hi51 hi52 hi53 hF hY hP (hEP) (hN) (hmj) (se_lt _ _ _)) (fun v28 M29 q30 => ?_)
                      obtain ⟨rfl, rfl⟩ := q30
                      show pl _ _ _ (251, [(0, .ref m0), (1, .int (nI k))], [.int (nI (tg f E (se f E k)))], M) _
                      have htg_248 := tg_lt f E (se f E k)
                      refine ps_st (S' := (253, [(0, .ref m0), (1, .int (nI k))], [.int 12, .int (nI (tg f E (se f E k)))], M)) rfl rfl rfl ?_
                      refine ps_if2 (S1 := (276, [], [], M)) (S2 := (256, [(0, .ref m0), (1, .int (nI k))], [], M)) rfl rfl rfl (fun c_253 => ?_) (fun c_253 => ?_)
                      · have c_253 : ¬ (nI (tg f E (se f E k))) = 12 := of_decide_eq_true c_253
                        have n_253 : ¬ (tg f E (se f E k) = 12) := fun h9 => c_253 ((eq_nI (p := tg f E (se f E k)) (n := 12) (Nat.lt_trans (tg_lt _ _ _) (by decide)) (by decide)).mpr h9)
                        refine ps_st (S' := (277, [], [.int 0], M)) rfl rfl rfl ?_
                        exact ps_ret rfl rfl (⟨congrArg (fun x => some (Value.int (nI x))) (show 0 = lnkN f E k from by
                            have e11 := pair_9 (f := f) (E := E) (k := se f E k)
                            have b3 := le1_pair f E (se f E k)
                            unfold lnkN
                            first | ((repeat first | rw [if_pos (by omega)] | rw [if_neg (by omega)]) <;> first | rfl | omega) | ((repeat' split) <;> first | rfl | (exfalso; omega) | omega)), rfl⟩)
                      · have c_253 : ¬ (¬ (nI (tg f E (se f E k))) = 12) := of_decide_eq_false c_253
                        have n_253 : tg f E (se f E k) = 12 := (eq_nI (p := tg f E (se f E k)) (n := 12) (Nat.lt_trans (tg_lt _ _ _) (by decide)) (by decide)).mp (Decidable.not_not.mp c_253)
                        refine ps_st (S' := (257, [(0, .ref m0), (1, .int (nI k))], [.ref m0], M)) rfl rfl rfl ?_
                        refine ps_st (S' := (258, [(0, .ref m0), (1, .int (nI k))], [.ref m0, .ref m0], M)) rfl rfl rfl ?_
                        refine ps_st (S' := (259, [(0, .ref m0), (1, .int (nI k))], [.int (nI k), .ref m0, .ref m0], M)) rfl rfl rfl ?_
                        refine ps_st (S' := (260, [(0, .ref m0), (1, .int (nI k))], [.int 3, .int (nI k), .ref m0, .ref m0], M)) rfl rfl rfl ?_
                        refine pl_call (a := [.ref m0, .int (nI k), .int 3]) (rest := [.ref m0]) rfl rfl rfl (rd_idx3 (n := n) (f := f) (tx := tx) (cN := cN) (A := A) (N := N) (mj := mj) (E := E) (k := k) hR hi51 hi52 hi53 hF hY hP (hEP) (hN) (hmj) (by omega)) (fun v31 M32 q33 => ?_)
                        obtain ⟨rfl, rfl⟩ := q33
                        show pl _ _ _ (263, [(0, .ref m0), (1, .int (nI k))], [.int (nI (se f E k)), .ref m0], M) _
                        have hix_260 := se_lt f E k
                        refine ps_st (S' := (265, [(0, .ref m0), (1, .int (nI k))], [.int 12, .int (nI (se f E k)), .ref m0], M)) rfl rfl rfl ?_
                        refine ps_st (S' := (266, [(0, .ref m0), (1, .int (nI k))], [.int 0, .int 12, .int (nI (se f E k)), .ref m0], M)) rfl rfl rfl ?_
                        refine pl_call (a := [.ref m0, .int (nI (se f E k)), .int 12, .int 0]) (rest := []) rfl rfl rfl (rd_ix12 (n := n) (f := f) (tx := tx) (cN := cN) (A := A) (N := N) (mj := mj) (E := E) (k := (se f E k)) hR hi51 hi52 hi53 hF hY hP (hEP) (hN) (hmj) (by omega)) (fun v34 M35 q36 => ?_)
                        obtain ⟨rfl, rfl⟩ := q36
                        show pl _ _ _ (269, [(0, .ref m0), (1, .int (nI k))], [.int (nI (pairN f E (se f E k)))], M) _
                        refine ps_if (S1 := (276, [], [], M)) (S2 := (272, [(0, .ref m0), (1, .int (nI k))], [], M)) rfl rfl rfl (fun c_269 => ?_) (fun c_269 => ?_)
                        · have c_269 : (nI (pairN f E (se f E k))) = 0 := of_decide_eq_true c_269
                          have n_269 : pairN f E (se f E k) = 0 := (eq_nI (p := pairN f E (se f E k)) (n := 0) (Nat.lt_trans (le1_pair _ _ _) (by decide)) (by decide)).mp c_269
                          refine ps_st (S' := (277, [], [.int 0], M)) rfl rfl rfl ?_
                          exact ps_ret rfl rfl (⟨congrArg (fun x => some (Value.int (nI x))) (show 0 = lnkN f E k from by
                              have e11 := pair_9 (f := f) (E := E) (k := se f E k)
                              have b3 := le1_pair f E (se f E k)
                              unfold lnkN
                              first | ((repeat first | rw [if_pos (by omega)] | rw [if_neg (by omega)]) <;> first | rfl | omega) | ((repeat' split) <;> first | rfl | (exfalso; omega) | omega)), rfl⟩)
                        · have c_269 : ¬ ((nI (pairN f E (se f E k))) = 0) := of_decide_eq_false c_269
                          have n_269 : ¬ (pairN f E (se f E k) = 0) := fun h9 => c_269 ((eq_nI (p := pairN f E (se f E k)) (n := 0) (Nat.lt_trans (le1_pair _ _ _) (by decide)) (by decide)).mpr h9)
                          refine ps_st (S' := (273, [(0, .ref m0), (1, .int (nI k))], [.int 1], M)) rfl rfl rfl ?_
                          refine ps_st (S' := (277, [], [.int 1], M)) rfl rfl rfl ?_
                          exact ps_ret rfl rfl (⟨congrArg (fun x => some (Value.int (nI x))) (show 1 = lnkN f E k from by
                              have e11 := pair_9 (f := f) (E := E) (k := se f E k)
                              have b3 := le1_pair f E (se f E k)
                              unfold lnkN
                              first | ((repeat first | rw [if_pos (by omega)] | rw [if_neg (by omega)]) <;> first | rfl | omega) | ((repeat' split) <;> first | rfl | (exfalso; omega) | omega)), rfl⟩)
                    · have c_232 : ¬ ((nI t) = 17) := of_decide_eq_false c_232
                      have n_232 : ¬ (t = 17) := fun h9 => c_232 ((eq_nI (p := t) (n := 17) (by omega) (by decide)).mpr h9)
                      refine ps_st (S' := (236, [(0, .ref m0), (1, .int (nI k)), (2, .int (nI t))], [.int (nI t)], M)) rfl rfl rfl ?_
                      refine ps_st (S' := (238, [(0, .ref m0), (1, .int (nI k)), (2, .int (nI t))], [.int 18, .int (nI t)], M)) rfl rfl rfl ?_
                      refine ps_if2 (S1 := (278, [(0, .ref m0), (1, .int (nI k)), (2, .int (nI t))], [], M)) (S2 := (241, [(0, .ref m0), (1, .int (nI k))], [], M)) rfl rfl rfl (fun c_238 => ?_) (fun c_238 => ?_)
                      · have c_238 : ¬ (nI t) = 18 := of_decide_eq_true c_238
                        have n_238 : ¬ (t = 18) := fun h9 => c_238 ((eq_nI (p := t) (n := 18) (by omega) (by decide)).mpr h9)
                        refine ps_st (S' := (279, [(0, .ref m0), (1, .int (nI k)), (2, .int (nI t))], [.int 1], M)) rfl rfl rfl ?_
                        exact ps_ret rfl rfl (⟨congrArg (fun x => some (Value.int (nI x))) (show 1 = lnkN f E k from by
                            unfold lnkN
                            first | ((repeat first | rw [if_pos (by omega)] | rw [if_neg (by omega)]) <;> first | rfl | omega) | ((repeat' split) <;> first | rfl | (exfalso; omega) | omega)), rfl⟩)
                      · have c_238 : ¬ (¬ (nI t) = 18) := of_decide_eq_false c_238
                        have n_238 : t = 18 := (eq_nI (p := t) (n := 18) (by omega) (by decide)).mp (Decidable.not_not.mp c_238)
                        refine ps_st (S' := (242, [(0, .ref m0), (1, .int (nI k))], [.ref m0], M)) rfl rfl rfl ?_
                        refine ps_st (S' := (243, [(0, .ref m0), (1, .int (nI k))], [.ref m0, .ref m0], M)) rfl rfl rfl ?_
                        refine ps_st (S' := (244, [(0, .ref m0), (1, .int (nI k))], [.int (nI k), .ref m0, .ref m0], M)) rfl rfl rfl ?_
                        refine ps_st (S' := (245, [(0, .ref m0), (1, .int (nI k))], [.int 3, .int (nI k), .ref m0, .ref m0], M)) rfl rfl rfl ?_
                        refine pl_call (a := [.ref m0, .int (nI k), .int 3]) (rest := [.ref m0]) rfl rfl rfl (rd_idx3 (n := n) (f := f) (tx := tx) (cN := cN) (A := A) (N := N) (mj := mj) (E := E) (k := k) hR hi51 hi52 hi53 hF hY hP (hEP) (hN) (hmj) (by omega)) (fun v37 M38 q39 => ?_)
                        obtain ⟨rfl, rfl⟩ := q39
                        show pl _ _ _ (248, [(0, .ref m0), (1, .int (nI k))], [.int (nI (se f E k)), .ref m0], M) _
                        have hix_245 := se_lt f E k
                        refine pl_call (a := [.ref m0, .int (nI (se f E k))]) (rest := []) rfl rfl rfl (rd_tag (n := n) (f := f) (tx := tx) (cN := cN) (A := A) (N := N) (mj := mj) (E := E) (k := (se f E k)) hR hi51 hi52 hi53 hF hY hP (hEP) (hN) (hmj) (se_lt _ _ _)) (fun v40 M41 q42 => ?_)
                        obtain ⟨rfl, rfl⟩ := q42
                        show pl _ _ _ (251, [(0, .ref m0), (1, .int (nI k))], [.int (nI (tg f E (se f E k)))], M) _
                        have htg_248 := tg_lt f E (se f E k)
                        refine ps_st (S' := (253, [(0, .ref m0), (1, .int (nI k))], [.int 12, .int (nI (tg f E (se f E k)))], M)) rfl rfl rfl ?_
                        refine ps_if2 (S1 := (276, [], [], M)) (S2 := (256, [(0, .ref m0), (1, .int (nI k))], [], M)) rfl rfl rfl (fun c_253 => ?_) (fun c_253 => ?_)
                        · have c_253 : ¬ (nI (tg f E (se f E k))) = 12 := of_decide_eq_true c_253
                          have n_253 : ¬ (tg f E (se f E k) = 12) := fun h9 => c_253 ((eq_nI (p := tg f E (se f E k)) (n := 12) (Nat.lt_trans (tg_lt _ _ _) (by decide)) (by decide)).mpr h9)
                          refine ps_st (S' := (277, [], [.int 0], M)) rfl rfl rfl ?_
                          exact ps_ret rfl rfl (⟨congrArg (fun x => some (Value.int (nI x))) (show 0 = lnkN f E k from by
                              have e11 := pair_9 (f := f) (E := E) (k := se f E k)
                              have b3 := le1_pair f E (se f E k)
                              unfold lnkN
                              first | ((repeat first | rw [if_pos (by omega)] | rw [if_neg (by omega)]) <;> first | rfl | omega) | ((repeat' split) <;> first | rfl | (exfalso; omega) | omega)), rfl⟩)
                        · have c_253 : ¬ (¬ (nI (tg f E (se f E k))) = 12) := of_decide_eq_false c_253
                          have n_253 : tg f E (se f E k) = 12 := (eq_nI (p := tg f E (se f E k)) (n := 12) (Nat.lt_trans (tg_lt _ _ _) (by decide)) (by decide)).mp (Decidable.not_not.mp c_253)
                          refine ps_st (S' := (257, [(0, .ref m0), (1, .int (nI k))], [.ref m0], M)) rfl rfl rfl ?_
                          refine ps_st (S' := (258, [(0, .ref m0), (1, .int (nI k))], [.ref m0, .ref m0], M)) rfl rfl rfl ?_
                          refine ps_st (S' := (259, [(0, .ref m0), (1, .int (nI k))], [.int (nI k), .ref m0, .ref m0], M)) rfl rfl rfl ?_
                          refine ps_st (S' := (260, [(0, .ref m0), (1, .int (nI k))], [.int 3, .int (nI k), .ref m0, .ref m0], M)) rfl rfl rfl ?_
                          refine pl_call (a := [.ref m0, .int (nI k), .int 3]) (rest := [.ref m0]) rfl rfl rfl (rd_idx3 (n := n) (f := f) (tx := tx) (cN := cN) (A := A) (N := N) (mj := mj) (E := E) (k := k) hR hi51 hi52 hi53 hF hY hP (hEP) (hN) (hmj) (by omega)) (fun v43 M44 q45 => ?_)
                          obtain ⟨rfl, rfl⟩ := q45
                          show pl _ _ _ (263, [(0, .ref m0), (1, .int (nI k))], [.int (nI (se f E k)), .ref m0], M) _
                          have hix_260 := se_lt f E k
                          refine ps_st (S' := (265, [(0, .ref m0), (1, .int (nI k))], [.int 12, .int (nI (se f E k)), .ref m0], M)) rfl rfl rfl ?_
                          refine ps_st (S' := (266, [(0, .ref m0), (1, .int (nI k))], [.int 0, .int 12, .int (nI (se f E k)), .ref m0], M)) rfl rfl rfl ?_
                          refine pl_call (a := [.ref m0, .int (nI (se f E k)), .int 12, .int 0]) (rest := []) rfl rfl rfl (rd_ix12 (n := n) (f := f) (tx := tx) (cN := cN) (A := A) (N := N) (mj := mj) (E := E) (k := (se f E k)) hR hi51 hi52 hi53 hF hY hP (hEP) (hN) (hmj) (by omega)) (fun v46 M47 q48 => ?_)
                          obtain ⟨rfl, rfl⟩ := q48
                          show pl _ _ _ (269, [(0, .ref m0), (1, .int (nI k))], [.int (nI (pairN f E (se f E k)))], M) _
                          refine ps_if (S1 := (276, [], [], M)) (S2 := (272, [(0, .ref m0), (1, .int (nI k))], [], M)) rfl rfl rfl (fun c_269 => ?_) (fun c_269 => ?_)
                          · have c_269 : (nI (pairN f E (se f E k))) = 0 := of_decide_eq_true c_269
                            have n_269 : pairN f E (se f E k) = 0 := (eq_nI (p := pairN f E (se f E k)) (n := 0) (Nat.lt_trans (le1_pair _ _ _) (by decide)) (by decide)).mp c_269
                            refine ps_st (S' := (277, [], [.int 0], M)) rfl rfl rfl ?_
                            exact ps_ret rfl rfl (⟨congrArg (fun x => some (Value.int (nI x))) (show 0 = lnkN f E k from by
                                have e11 := pair_9 (f := f) (E := E) (k := se f E k)
                                have b3 := le1_pair f E (se f E k)
                                unfold lnkN
                                first | ((repeat first | rw [if_pos (by omega)] | rw [if_neg (by omega)]) <;> first | rfl | omega) | ((repeat' split) <;> first | rfl | (exfalso; omega) | omega)), rfl⟩)
                          · have c_269 : ¬ ((nI (pairN f E (se f E k))) = 0) := of_decide_eq_false c_269
                            have n_269 : ¬ (pairN f E (se f E k) = 0) := fun h9 => c_269 ((eq_nI (p := pairN f E (se f E k)) (n := 0) (Nat.lt_trans (le1_pair _ _ _) (by decide)) (by decide)).mpr h9)
                            refine ps_st (S' := (273, [(0, .ref m0), (1, .int (nI k))], [.int 1], M)) rfl rfl rfl ?_
                            refine ps_st (S' := (277, [], [.int 1], M)) rfl rfl rfl ?_
                            exact ps_ret rfl rfl (⟨congrArg (fun x => some (Value.int (nI x))) (show 1 = lnkN f E k from by
                                have e11 := pair_9 (f := f) (E := E) (k := se f E k)
                                have b3 := le1_pair f E (se f E k)
                                unfold lnkN
                                first | ((repeat first | rw [if_pos (by omega)] | rw [if_neg (by omega)]) <;> first | rfl | omega) | ((repeat' split) <;> first | rfl | (exfalso; omega) | omega)), rfl⟩)
                  · have c_173 : ¬ (¬ (nI t) = 15) := of_decide_eq_false c_173
                    have n_173 : t = 15 := (eq_nI (p := t) (n := 15) (by omega) (by decide)).mp (Decidable.not_not.mp c_173)
                    refine ps_st (S' := (177, [(0, .ref m0), (1, .int (nI k)), (2, .int (nI t))], [.ref m0], M)) rfl rfl rfl ?_
                    refine ps_st (S' := (178, [(0, .ref m0), (1, .int (nI k)), (2, .int (nI t))], [.ref m0, .ref m0], M)) rfl rfl rfl ?_
                    refine ps_st (S' := (179, [(0, .ref m0), (1, .int (nI k)), (2, .int (nI t))], [.int (nI k), .ref m0, .ref m0], M)) rfl rfl rfl ?_
                    refine ps_st (S' := (180, [(0, .ref m0), (1, .int (nI k)), (2, .int (nI t))], [.int 2, .int (nI k), .ref m0, .ref m0], M)) rfl rfl rfl ?_
                    refine pl_call (a := [.ref m0, .int (nI k), .int 2]) (rest := [.ref m0]) rfl rfl rfl (rd_idx2 (n := n) (f := f) (tx := tx) (cN := cN) (A := A) (N := N) (mj := mj) (E := E) (k := k) hR hi51 hi52 hi53 hF hY hP (hEP) (hN) (hmj) (by omega)) (fun v49 M50 q51 => ?_)
                    obtain ⟨rfl, rfl⟩ := q51
                    show pl _ _ _ (183, [(0, .ref m0), (1, .int (nI k)), (2, .int (nI t))], [.int (nI (se f E k)), .ref m0], M) _
                    have hix_180 := se_lt f E k
                    refine pl_call (a := [.ref m0, .int (nI (se f E k))]) (rest := []) rfl rfl rfl (rd_tag (n := n) (f := f) (tx := tx) (cN := cN) (A := A) (N := N) (mj := mj) (E := E) (k := (se f E k)) hR hi51 hi52 hi53 hF hY hP (hEP) (hN) (hmj) (se_lt _ _ _)) (fun v52 M53 q54 => ?_)
                    obtain ⟨rfl, rfl⟩ := q54
                    show pl _ _ _ (186, [(0, .ref m0), (1, .int (nI k)), (2, .int (nI t))], [.int (nI (tg f E (se f E k)))], M) _
                    have htg_183 := tg_lt f E (se f E k)
                    refine ps_st (S' := (188, [(4, .int (nI (tg f E (se f E k)))), (0, .ref m0), (1, .int (nI k)), (2, .int (nI t))], [], M)) rfl rfl rfl ?_
                    refine ps_st (S' := (190, [(4, .int (nI (tg f E (se f E k)))), (0, .ref m0), (1, .int (nI k)), (2, .int (nI t))], [.int (nI (tg f E (se f E k)))], M)) rfl rfl rfl ?_
                    refine ps_if (S1 := (227, [], [], M)) (S2 := (193, [(4, .int (nI (tg f E (se f E k)))), (0, .ref m0), (1, .int (nI k)), (2, .int (nI t))], [], M)) rfl rfl rfl (fun c_190 => ?_) (fun c_190 => ?_)
                    · have c_190 : (nI (tg f E (se f E k))) = 0 := of_decide_eq_true c_190
                      have n_190 : tg f E (se f E k) = 0 := (eq_nI (p := tg f E (se f E k)) (n := 0) (Nat.lt_trans (tg_lt _ _ _) (by decide)) (by decide)).mp c_190
                      refine ps_st (S' := (228, [], [.int 0], M)) rfl rfl rfl ?_
                      exact ps_ret rfl rfl (⟨congrArg (fun x => some (Value.int (nI x))) (show 0 = lnkN f E k from by
                          have e8 := ism_9 (f := f) (E := E) (k := se f E k)
                          have b4 := le1_mem f E (se f E k)
                          unfold lnkN
                          first | ((repeat first | rw [if_pos (by omega)] | rw [if_neg (by omega)]) <;> first | rfl | omega) | ((repeat' split) <;> first | rfl | (exfalso; omega) | omega)), rfl⟩)
                    · have c_190 : ¬ ((nI (tg f E (se f E k))) = 0) := of_decide_eq_false c_190
                      have n_190 : ¬ (tg f E (se f E k) = 0) := fun h9 => c_190 ((eq_nI (p := tg f E (se f E k)) (n := 0) (Nat.lt_trans (tg_lt _ _ _) (by decide)) (by decide)).mpr h9)
                      refine ps_st (S' := (195, [(4, .int (nI (tg f E (se f E k)))), (0, .ref m0), (1, .int (nI k)), (2, .int (nI t))], [.int (nI (tg f E (se f E k)))], M)) rfl rfl rfl ?_
                      refine ps_st (S' := (197, [(4, .int (nI (tg f E (se f E k)))), (0, .ref m0), (1, .int (nI k)), (2, .int (nI t))], [.int 9, .int (nI (tg f E (se f E k)))], M)) rfl rfl rfl ?_
                      refine ps_if2 (S1 := (223, [], [], M)) (S2 := (200, [(4, .int (nI (tg f E (se f E k)))), (0, .ref m0), (1, .int (nI k)), (2, .int (nI t))], [], M)) rfl rfl rfl (fun c_197 => ?_) (fun c_197 => ?_)
                      · have c_197 : (nI (tg f E (se f E k))) < 9 := of_decide_eq_true c_197
                        have n_197 : tg f E (se f E k) < 9 := (lt_nI (p := tg f E (se f E k)) (n := 9) (Nat.lt_trans (tg_lt _ _ _) (by decide)) (by decide)).mp c_197
                        refine ps_st (S' := (224, [], [.int 1], M)) rfl rfl rfl ?_
                        refine ps_st (S' := (228, [], [.int 1], M)) rfl rfl rfl ?_
                        exact ps_ret rfl rfl (⟨congrArg (fun x => some (Value.int (nI x))) (show 1 = lnkN f E k from by
                            have e8 := ism_9 (f := f) (E := E) (k := se f E k)
                            have b4 := le1_mem f E (se f E k)
                            unfold lnkN
                            first | ((repeat first | rw [if_pos (by omega)] | rw [if_neg (by omega)]) <;> first | rfl | omega) | ((repeat' split) <;> first | rfl | (exfalso; omega) | omega)), rfl⟩)
                      · have c_197 : ¬ ((nI (tg f E (se f E k))) < 9) := of_decide_eq_false c_197
                        have n_197 : ¬ (tg f E (se f E k) < 9) := fun h9 => c_197 ((lt_nI (p := tg f E (se f E k)) (n := 9) (Nat.lt_trans (tg_lt _ _ _) (by decide)) (by decide)).mpr h9)
                        refine ps_st (S' := (202, [(4, .int (nI (tg f E (se f E k)))), (0, .ref m0), (1, .int (nI k)), (2, .int (nI t))], [.int (nI (tg f E (se f E k)))], M)) rfl rfl rfl ?_
                        refine ps_st (S' := (204, [(4, .int (nI (tg f E (se f E k)))), (0, .ref m0), (1, .int (nI k)), (2, .int (nI t))], [.int 11, .int (nI (tg f E (se f E k)))], M)) rfl rfl rfl ?_
                        refine ps_if2 (S1 := (223, [], [], M)) (S2 := (207, [(4, .int (nI (tg f E (se f E k)))), (0, .ref m0), (1, .int (nI k)), (2, .int (nI t))], [], M)) rfl rfl rfl (fun c_204 => ?_) (fun c_204 => ?_)
                        · have c_204 : 11 < (nI (tg f E (se f E k))) := of_decide_eq_true c_204
                          have n_204 : 11 < tg f E (se f E k) := (lt_nI (p := 11) (n := tg f E (se f E k)) (by decide) (Nat.lt_trans (tg_lt _ _ _) (by decide))).mp c_204
                          refine ps_st (S' := (224, [], [.int 1], M)) rfl rfl rfl ?_
                          refine ps_st (S' := (228, [], [.int 1], M)) rfl rfl rfl ?_
                          exact ps_ret rfl rfl (⟨congrArg (fun x => some (Value.int (nI x))) (show 1 = lnkN f E k from by
                              have e8 := ism_9 (f := f) (E := E) (k := se f E k)
                              have b4 := le1_mem f E (se f E k)
                              unfold lnkN
                              first | ((repeat first | rw [if_pos (by omega)] | rw [if_neg (by omega)]) <;> first | rfl | omega) | ((repeat' split) <;> first | rfl | (exfalso; omega) | omega)), rfl⟩)
                        · have c_204 : ¬ (11 < (nI (tg f E (se f E k)))) := of_decide_eq_false c_204
                          have n_204 : ¬ (11 < tg f E (se f E k)) := fun h9 => c_204 ((lt_nI (p := 11) (n := tg f E (se f E k)) (by decide) (Nat.lt_trans (tg_lt _ _ _) (by decide))).mpr h9)
                          refine ps_st (S' := (208, [(4, .int (nI (tg f E (se f E k)))), (0, .ref m0), (1, .int (nI k)), (2, .int (nI t))], [.ref m0], M)) rfl rfl rfl ?_
                          refine ps_st (S' := (209, [(4, .int (nI (tg f E (se f E k)))), (0, .ref m0), (1, .int (nI k)), (2, .int (nI t))], [.ref m0, .ref m0], M)) rfl rfl rfl ?_
                          refine ps_st (S' := (210, [(4, .int (nI (tg f E (se f E k)))), (0, .ref m0), (1, .int (nI k)), (2, .int (nI t))], [.int (nI k), .ref m0, .ref m0], M)) rfl rfl rfl ?_
                          refine ps_st (S' := (211, [(4, .int (nI (tg f E (se f E k)))), (0, .ref m0), (1, .int (nI k)), (2, .int (nI t))], [.int 2, .int (nI k), .ref m0, .ref m0], M)) rfl rfl rfl ?_
                          refine pl_call (a := [.ref m0, .int (nI k), .int 2]) (rest := [.ref m0]) rfl rfl rfl (rd_idx2 (n := n) (f := f) (tx := tx) (cN := cN) (A := A) (N := N) (mj := mj) (E := E) (k := k) hR hi51 hi52 hi53 hF hY hP (hEP) (hN) (hmj) (by omega)) (fun v55 M56 q57 => ?_)
                          obtain ⟨rfl, rfl⟩ := q57
                          show pl _ _ _ (214, [(4, .int (nI (tg f E (se f E k)))), (0, .ref m0), (1, .int (nI k)), (2, .int (nI t))], [.int (nI (se f E k)), .ref m0], M) _
                          have hix_211 := se_lt f E k
                          refine ps_st (S' := (216, [(4, .int (nI (tg f E (se f E k)))), (0, .ref m0), (1, .int (nI k)), (2, .int (nI t))], [.int (nI (tg f E (se f E k))), .int (nI (se f E k)), .ref m0], M)) rfl rfl rfl ?_
                          refine ps_st (S' := (217, [(4, .int (nI (tg f E (se f E k)))), (0, .ref m0), (1, .int (nI k)), (2, .int (nI t))], [.int 0, .int (nI (tg f E (se f E k))), .int (nI (se f E k)), .ref m0], M)) rfl rfl rfl ?_
                          refine pl_call (a := [.ref m0, .int (nI (se f E k)), .int (nI (tg f E (se f E k))), .int 0]) (rest := []) rfl rfl rfl (rd_ixM (n := n) (f := f) (tx := tx) (cN := cN) (A := A) (N := N) (mj := mj) (E := E) (k := (se f E k)) (t := (tg f E (se f E k))) hR hi51 hi52 hi53 hF hY hP (hEP) (hN) (hmj) (rfl) (by omega)) (fun v58 M59 q60 => ?_)
                          obtain ⟨rfl, rfl⟩ := q60
                          show pl _ _ _ (220, [(4, .int (nI (tg f E (se f E k)))), (0, .ref m0), (1, .int (nI k)), (2, .int (nI t))], [.int (nI (memN f E (se f E k)))], M) _
                          refine ps_if (S1 := (227, [], [], M)) (S2 := (223, [], [], M)) rfl rfl rfl (fun c_220 => ?_) (fun c_220 => ?_)
                          · have c_220 : (nI (memN f E (se f E k))) = 0 := of_decide_eq_true c_220
                            have n_220 : memN f E (se f E k) = 0 := (eq_nI (p := memN f E (se f E k)) (n := 0) (Nat.lt_trans (le1_mem _ _ _) (by decide)) (by decide)).mp c_220
                            refine ps_st (S' := (228, [], [.int 0], M)) rfl rfl rfl ?_
                            exact ps_ret rfl rfl (⟨congrArg (fun x => some (Value.int (nI x))) (show 0 = lnkN f E k from by
                                have e8 := ism_9 (f := f) (E := E) (k := se f E k)
                                have b4 := le1_mem f E (se f E k)
                                unfold lnkN
                                first | ((repeat first | rw [if_pos (by omega)] | rw [if_neg (by omega)]) <;> first | rfl | omega) | ((repeat' split) <;> first | rfl | (exfalso; omega) | omega)), rfl⟩)
                          · have c_220 : ¬ ((nI (memN f E (se f E k))) = 0) := of_decide_eq_false c_220
                            have n_220 : ¬ (memN f E (se f E k) = 0) := fun h9 => c_220 ((eq_nI (p := memN f E (se f E k)) (n := 0) (Nat.lt_trans (le1_mem _ _ _) (by decide)) (by decide)).mpr h9)
                            refine ps_st (S' := (224, [], [.int 1], M)) rfl rfl rfl ?_
                            refine ps_st (S' := (228, [], [.int 1], M)) rfl rfl rfl ?_
                            exact ps_ret rfl rfl (⟨congrArg (fun x => some (Value.int (nI x))) (show 1 = lnkN f E k from by
                                have e8 := ism_9 (f := f) (E := E) (k := se f E k)
                                have b4 := le1_mem f E (se f E k)
                                unfold lnkN
                                first | ((repeat first | rw [if_pos (by omega)] | rw [if_neg (by omega)]) <;> first | rfl | omega) | ((repeat' split) <;> first | rfl | (exfalso; omega) | omega)), rfl⟩)
                · have c_133 : ¬ (¬ (nI t) = 12) := of_decide_eq_false c_133
                  have n_133 : t = 12 := (eq_nI (p := t) (n := 12) (by omega) (by decide)).mp (Decidable.not_not.mp c_133)
                  refine ps_st (S' := (137, [(0, .ref m0), (1, .int (nI k)), (2, .int (nI t))], [.ref m0], M)) rfl rfl rfl ?_
                  refine ps_st (S' := (138, [(0, .ref m0), (1, .int (nI k)), (2, .int (nI t))], [.ref m0, .ref m0], M)) rfl rfl rfl ?_
                  refine ps_st (S' := (139, [(0, .ref m0), (1, .int (nI k)), (2, .int (nI t))], [.int (nI k), .ref m0, .ref m0], M)) rfl rfl rfl ?_
                  refine ps_st (S' := (140, [(0, .ref m0), (1, .int (nI k)), (2, .int (nI t))], [.int 1, .int (nI k), .ref m0, .ref m0], M)) rfl rfl rfl ?_
                  refine pl_call (a := [.ref m0, .int (nI k), .int 1]) (rest := [.ref m0]) rfl rfl rfl (rd_idx1 (n := n) (f := f) (tx := tx) (cN := cN) (A := A) (N := N) (mj := mj) (E := E) (k := k) hR hi51 hi52 hi53 hF hY hP (hEP) (hN) (hmj) (by omega)) (fun v61 M62 q63 => ?_)
                  obtain ⟨rfl, rfl⟩ := q63
                  show pl _ _ _ (143, [(0, .ref m0), (1, .int (nI k)), (2, .int (nI t))], [.int (nI (fi f E k)), .ref m0], M) _
                  have hix_140 := fi_lt f E k
                  refine pl_call (a := [.ref m0, .int (nI (fi f E k))]) (rest := []) rfl rfl rfl (rd_tag (n := n) (f := f) (tx := tx) (cN := cN) (A := A) (N := N) (mj := mj) (E := E) (k := (fi f E k)) hR hi51 hi52 hi53 hF hY hP (hEP) (hN) (hmj) (fi_lt _ _ _)) (fun v64 M65 q66 => ?_)
                  obtain ⟨rfl, rfl⟩ := q66
                  show pl _ _ _ (146, [(0, .ref m0), (1, .int (nI k)), (2, .int (nI t))], [.int (nI (tg f E (fi f E k)))], M) _
                  have htg_143 := tg_lt f E (fi f E k)
                  refine ps_st (S' := (147, [(0, .ref m0), (1, .int (nI k)), (2, .int (nI t))], [.int 1, .int (nI (tg f E (fi f E k)))], M)) rfl rfl rfl ?_
                  refine ps_if2 (S1 := (168, [], [], M)) (S2 := (150, [(0, .ref m0), (1, .int (nI k)), (2, .int (nI t))], [], M)) rfl rfl rfl (fun c_147 => ?_) (fun c_147 => ?_)
                  · have c_147 : ¬ (nI (tg f E (fi f E k))) = 1 := of_decide_eq_true c_147
                    have n_147 : ¬ (tg f E (fi f E k) = 1) := fun h9 => c_147 ((eq_nI (p := tg f E (fi f E k)) (n := 1) (Nat.lt_trans (tg_lt _ _ _) (by decide)) (by decide)).mpr h9)
                    refine ps_st (S' := (169, [], [.int 0], M)) rfl rfl rfl ?_
                    exact ps_ret rfl rfl (⟨congrArg (fun x => some (Value.int (nI x))) (show 0 = lnkN f E k from by
                        have e9 := pair_9 (f := f) (E := E) (k := k)
                        have b1 := le1_pair f E k
                        unfold lnkN
                        first | ((repeat first | rw [if_pos (by omega)] | rw [if_neg (by omega)]) <;> first | rfl | omega) | ((repeat' split) <;> first | rfl | (exfalso; omega) | omega)), rfl⟩)
                  · have c_147 : ¬ (¬ (nI (tg f E (fi f E k))) = 1) := of_decide_eq_false c_147
                    have n_147 : tg f E (fi f E k) = 1 := (eq_nI (p := tg f E (fi f E k)) (n := 1) (Nat.lt_trans (tg_lt _ _ _) (by decide)) (by decide)).mp (Decidable.not_not.mp c_147)
                    refine ps_st (S' := (151, [(0, .ref m0), (1, .int (nI k)), (2, .int (nI t))], [.ref m0], M)) rfl rfl rfl ?_
                    refine ps_st (S' := (152, [(0, .ref m0), (1, .int (nI k)), (2, .int (nI t))], [.ref m0, .ref m0], M)) rfl rfl rfl ?_
                    refine ps_st (S' := (153, [(0, .ref m0), (1, .int (nI k)), (2, .int (nI t))], [.int (nI k), .ref m0, .ref m0], M)) rfl rfl rfl ?_
                    refine ps_st (S' := (154, [(0, .ref m0), (1, .int (nI k)), (2, .int (nI t))], [.int 3, .int (nI k), .ref m0, .ref m0], M)) rfl rfl rfl ?_
                    refine pl_call (a := [.ref m0, .int (nI k), .int 3]) (rest := [.ref m0]) rfl rfl rfl (rd_idx3 (n := n) (f := f) (tx := tx) (cN := cN) (A := A) (N := N) (mj := mj) (E := E) (k := k) hR hi51 hi52 hi53 hF hY hP (hEP) (hN) (hmj) (by omega)) (fun v67 M68 q69 => ?_)
                    obtain ⟨rfl, rfl⟩ := q69
                    show pl _ _ _ (157, [(0, .ref m0), (1, .int (nI k)), (2, .int (nI t))], [.int (nI (se f E k)), .ref m0], M) _
                    have hix_154 := se_lt f E k
                    refine pl_call (a := [.ref m0, .int (nI (se f E k))]) (rest := []) rfl rfl rfl (rd_tag (n := n) (f := f) (tx := tx) (cN := cN) (A := A) (N := N) (mj := mj) (E := E) (k := (se f E k)) hR hi51 hi52 hi53 hF hY hP (hEP) (hN) (hmj) (se_lt _ _ _)) (fun v70 M71 q72 => ?_)
                    obtain ⟨rfl, rfl⟩ := q72
                    show pl _ _ _ (160, [(0, .ref m0), (1, .int (nI k)), (2, .int (nI t))], [.int (nI (tg f E (se f E k)))], M) _
                    have htg_157 := tg_lt f E (se f E k)
                    refine ps_st (S' := (161, [(0, .ref m0), (1, .int (nI k)), (2, .int (nI t))], [.int 1, .int (nI (tg f E (se f E k)))], M)) rfl rfl rfl ?_
                    refine ps_if2 (S1 := (168, [], [], M)) (S2 := (164, [(0, .ref m0), (1, .int (nI k)), (2, .int (nI t))], [], M)) rfl rfl rfl (fun c_161 => ?_) (fun c_161 => ?_)
                    · have c_161 : ¬ (nI (tg f E (se f E k))) = 1 := of_decide_eq_true c_161
                      have n_161 : ¬ (tg f E (se f E k) = 1) := fun h9 => c_161 ((eq_nI (p := tg f E (se f E k)) (n := 1) (Nat.lt_trans (tg_lt _ _ _) (by decide)) (by decide)).mpr h9)
                      refine ps_st (S' := (169, [], [.int 0], M)) rfl rfl rfl ?_
                      exact ps_ret rfl rfl (⟨congrArg (fun x => some (Value.int (nI x))) (show 0 = lnkN f E k from by
                          have e9 := pair_9 (f := f) (E := E) (k := k)
                          have b1 := le1_pair f E k
                          unfold lnkN
                          first | ((repeat first | rw [if_pos (by omega)] | rw [if_neg (by omega)]) <;> first | rfl | omega) | ((repeat' split) <;> first | rfl | (exfalso; omega) | omega)), rfl⟩)
                    · have c_161 : ¬ (¬ (nI (tg f E (se f E k))) = 1) := of_decide_eq_false c_161
                      have n_161 : tg f E (se f E k) = 1 := (eq_nI (p := tg f E (se f E k)) (n := 1) (Nat.lt_trans (tg_lt _ _ _) (by decide)) (by decide)).mp (Decidable.not_not.mp c_161)
                      refine ps_st (S' := (165, [(0, .ref m0), (1, .int (nI k)), (2, .int (nI t))], [.int 1], M)) rfl rfl rfl ?_
                      refine ps_st (S' := (169, [], [.int 1], M)) rfl rfl rfl ?_
                      exact ps_ret rfl rfl (⟨congrArg (fun x => some (Value.int (nI x))) (show 1 = lnkN f E k from by
                          have e9 := pair_9 (f := f) (E := E) (k := k)
                          have b1 := le1_pair f E k
                          unfold lnkN
                          first | ((repeat first | rw [if_pos (by omega)] | rw [if_neg (by omega)]) <;> first | rfl | omega) | ((repeat' split) <;> first | rfl | (exfalso; omega) | omega)), rfl⟩)
              · have c_59 : ¬ (11 < (nI t)) := of_decide_eq_false c_59
                have n_59 : ¬ (11 < t) := fun h9 => c_59 ((lt_nI (p := 11) (n := t) (by decide) (by omega)).mpr h9)
                refine ps_st (S' := (63, [(0, .ref m0), (1, .int (nI k)), (2, .int (nI t)), (3, .int 1)], [.ref m0], M)) rfl rfl rfl ?_
                refine ps_st (S' := (64, [(0, .ref m0), (1, .int (nI k)), (2, .int (nI t)), (3, .int 1)], [.ref m0, .ref m0], M)) rfl rfl rfl ?_
                refine ps_st (S' := (65, [(0, .ref m0), (1, .int (nI k)), (2, .int (nI t)), (3, .int 1)], [.int (nI k), .ref m0, .ref m0], M)) rfl rfl rfl ?_
                refine ps_st (S' := (66, [(0, .ref m0), (1, .int (nI k)), (2, .int (nI t)), (3, .int 1)], [.int 1, .int (nI k), .ref m0, .ref m0], M)) rfl rfl rfl ?_
                refine pl_call (a := [.ref m0, .int (nI k), .int 1]) (rest := [.ref m0]) rfl rfl rfl (rd_idx1 (n := n) (f := f) (tx := tx) (cN := cN) (A := A) (N := N) (mj := mj) (E := E) (k := k) hR hi51 hi52 hi53 hF hY hP (hEP) (hN) (hmj) (by omega)) (fun v73 M74 q75 => ?_)
                obtain ⟨rfl, rfl⟩ := q75
                show pl _ _ _ (69, [(0, .ref m0), (1, .int (nI k)), (2, .int (nI t)), (3, .int 1)], [.int (nI (fi f E k)), .ref m0], M) _
                have hix_66 := fi_lt f E k
                refine pl_call (a := [.ref m0, .int (nI (fi f E k))]) (rest := []) rfl rfl rfl (rd_tag (n := n) (f := f) (tx := tx) (cN := cN) (A := A) (N := N) (mj := mj) (E := E) (k := (fi f E k)) hR hi51 hi52 hi53 hF hY hP (hEP) (hN) (hmj) (fi_lt _ _ _)) (fun v76 M77 q78 => ?_)
                obtain ⟨rfl, rfl⟩ := q78
                show pl _ _ _ (72, [(0, .ref m0), (1, .int (nI k)), (2, .int (nI t)), (3, .int 1)], [.int (nI (tg f E (fi f E k)))], M) _
                have htg_69 := tg_lt f E (fi f E k)
                refine ps_st (S' := (74, [(0, .ref m0), (1, .int (nI k)), (2, .int (nI t)), (3, .int 1)], [.int 7, .int (nI (tg f E (fi f E k)))], M)) rfl rfl rfl ?_
                refine ps_if2 (S1 := (128, [], [], M)) (S2 := (77, [(0, .ref m0), (1, .int (nI k)), (2, .int (nI t)), (3, .int 1)], [], M)) rfl rfl rfl (fun c_74 => ?_) (fun c_74 => ?_)
                · have c_74 : ¬ (nI (tg f E (fi f E k))) = 7 := of_decide_eq_true c_74
                  have n_74 : ¬ (tg f E (fi f E k) = 7) := fun h9 => c_74 ((eq_nI (p := tg f E (fi f E k)) (n := 7) (Nat.lt_trans (tg_lt _ _ _) (by decide)) (by decide)).mpr h9)
                  refine ps_st (S' := (129, [], [.int 0], M)) rfl rfl rfl ?_
                  exact ps_ret rfl rfl (⟨congrArg (fun x => some (Value.int (nI x))) (show 0 = lnkN f E k from by
                      have e7 := lnk_7 (f := f) (E := E) (k := fi f E k)
                      have e10 := mem_9 (f := f) (E := E) (k := k)
                      have e11 := pair_9 (f := f) (E := E) (k := se f E k)
                      have b2 := le1_mem f E k
                      unfold lnkN
                      first | ((repeat first | rw [if_pos (by omega)] | rw [if_neg (by omega)]) <;> first | rfl | omega) | ((repeat' split) <;> first | rfl | (exfalso; omega) | omega)), rfl⟩)
                · have c_74 : ¬ (¬ (nI (tg f E (fi f E k))) = 7) := of_decide_eq_false c_74
                  have n_74 : tg f E (fi f E k) = 7 := (eq_nI (p := tg f E (fi f E k)) (n := 7) (Nat.lt_trans (tg_lt _ _ _) (by decide)) (by decide)).mp (Decidable.not_not.mp c_74)
                  refine ps_st (S' := (78, [(0, .ref m0), (1, .int (nI k)), (2, .int (nI t)), (3, .int 1)], [.ref m0], M)) rfl rfl rfl ?_
                  refine ps_st (S' := (79, [(0, .ref m0), (1, .int (nI k)), (2, .int (nI t)), (3, .int 1)], [.ref m0, .ref m0], M)) rfl rfl rfl ?_
                  refine ps_st (S' := (80, [(0, .ref m0), (1, .int (nI k)), (2, .int (nI t)), (3, .int 1)], [.int (nI k), .ref m0, .ref m0], M)) rfl rfl rfl ?_
                  refine ps_st (S' := (81, [(0, .ref m0), (1, .int (nI k)), (2, .int (nI t)), (3, .int 1)], [.int 1, .int (nI k), .ref m0, .ref m0], M)) rfl rfl rfl ?_
                  refine pl_call (a := [.ref m0, .int (nI k), .int 1]) (rest := [.ref m0]) rfl rfl rfl (rd_idx1 (n := n) (f := f) (tx := tx) (cN := cN) (A := A) (N := N) (mj := mj) (E := E) (k := k) hR hi51 hi52 hi53 hF hY hP (hEP) (hN) (hmj) (by omega)) (fun v79 M80 q81 => ?_)
                  obtain ⟨rfl, rfl⟩ := q81
                  show pl _ _ _ (84, [(0, .ref m0), (1, .int (nI k)), (2, .int (nI t)), (3, .int 1)], [.int (nI (fi f E k)), .ref m0], M) _
                  have hix_81 := fi_lt f E k
                  refine ps_st (S' := (86, [(0, .ref m0), (1, .int (nI k)), (2, .int (nI t)), (3, .int 1)], [.int 7, .int (nI (fi f E k)), .ref m0], M)) rfl rfl rfl ?_
                  refine ps_st (S' := (87, [(0, .ref m0), (1, .int (nI k)), (2, .int (nI t)), (3, .int 1)], [.int 0, .int 7, .int (nI (fi f E k)), .ref m0], M)) rfl rfl rfl ?_
                  refine pl_call (a := [.ref m0, .int (nI (fi f E k)), .int 7, .int 0]) (rest := []) rfl rfl rfl (rd_ix7 (n := n) (f := f) (tx := tx) (cN := cN) (A := A) (N := N) (mj := mj) (E := E) (k := (fi f E k)) hR hi51 hi52 hi53 hF hY hP (hEP) (hN) (hmj) (by omega)) (fun v82 M83 q84 => ?_)
                  obtain ⟨rfl, rfl⟩ := q84
                  show pl _ _ _ (90, [(0, .ref m0), (1, .int (nI k)), (2, .int (nI t)), (3, .int 1)], [.int (nI (lnkN f E (fi f E k)))], M) _
                  refine ps_if (S1 := (128, [], [], M)) (S2 := (93, [(0, .ref m0), (1, .int (nI k)), (2, .int (nI t)), (3, .int 1)], [], M)) rfl rfl rfl (fun c_90 => ?_) (fun c_90 => ?_)
                  · have c_90 : (nI (lnkN f E (fi f E k))) = 0 := of_decide_eq_true c_90
                    have n_90 : lnkN f E (fi f E k) = 0 := (eq_nI (p := lnkN f E (fi f E k)) (n := 0) (Nat.lt_trans (le1_lnk _ _ _) (by decide)) (by decide)).mp c_90
                    refine ps_st (S' := (129, [], [.int 0], M)) rfl rfl rfl ?_
                    exact ps_ret rfl rfl (⟨congrArg (fun x => some (Value.int (nI x))) (show 0 = lnkN f E k from by
                        have e7 := lnk_7 (f := f) (E := E) (k := fi f E k)
                        have e10 := mem_9 (f := f) (E := E) (k := k)
                        have e11 := pair_9 (f := f) (E := E) (k := se f E k)
                        have b2 := le1_mem f E k
                        unfold lnkN
                        first | ((repeat first | rw [if_pos (by omega)] | rw [if_neg (by omega)]) <;> first | rfl | omega) | ((repeat' split) <;> first | rfl | (exfalso; omega) | omega)), rfl⟩)
                  · have c_90 : ¬ ((nI (lnkN f E (fi f E k))) = 0) := of_decide_eq_false c_90
                    have n_90 : ¬ (lnkN f E (fi f E k) = 0) := fun h9 => c_90 ((eq_nI (p := lnkN f E (fi f E k)) (n := 0) (Nat.lt_trans (le1_lnk _ _ _) (by decide)) (by decide)).mpr h9)
                    refine ps_st (S' := (94, [(0, .ref m0), (1, .int (nI k)), (2, .int (nI t)), (3, .int 1)], [.ref m0], M)) rfl rfl rfl ?_
                    refine ps_st (S' := (95, [(0, .ref m0), (1, .int (nI k)), (2, .int (nI t)), (3, .int 1)], [.ref m0, .ref m0], M)) rfl rfl rfl ?_
                    refine ps_st (S' := (96, [(0, .ref m0), (1, .int (nI k)), (2, .int (nI t)), (3, .int 1)], [.int (nI k), .ref m0, .ref m0], M)) rfl rfl rfl ?_
                    refine ps_st (S' := (97, [(0, .ref m0), (1, .int (nI k)), (2, .int (nI t)), (3, .int 1)], [.int 3, .int (nI k), .ref m0, .ref m0], M)) rfl rfl rfl ?_
                    refine pl_call (a := [.ref m0, .int (nI k), .int 3]) (rest := [.ref m0]) rfl rfl rfl (rd_idx3 (n := n) (f := f) (tx := tx) (cN := cN) (A := A) (N := N) (mj := mj) (E := E) (k := k) hR hi51 hi52 hi53 hF hY hP (hEP) (hN) (hmj) (by omega)) (fun v85 M86 q87 => ?_)
                    obtain ⟨rfl, rfl⟩ := q87
                    show pl _ _ _ (100, [(0, .ref m0), (1, .int (nI k)), (2, .int (nI t)), (3, .int 1)], [.int (nI (se f E k)), .ref m0], M) _
                    have hix_97 := se_lt f E k
                    refine pl_call (a := [.ref m0, .int (nI (se f E k))]) (rest := []) rfl rfl rfl (rd_tag (n := n) (f := f) (tx := tx) (cN := cN) (A := A) (N := N) (mj := mj) (E := E) (k := (se f E k)) hR hi51 hi52 hi53 hF hY hP (hEP) (hN) (hmj) (se_lt _ _ _)) (fun v88 M89 q90 => ?_)
                    obtain ⟨rfl, rfl⟩ := q90
                    show pl _ _ _ (103, [(0, .ref m0), (1, .int (nI k)), (2, .int (nI t)), (3, .int 1)], [.int (nI (tg f E (se f E k)))], M) _
                    have htg_100 := tg_lt f E (se f E k)
                    refine ps_st (S' := (105, [(0, .ref m0), (1, .int (nI k)), (2, .int (nI t)), (3, .int 1)], [.int 12, .int (nI (tg f E (se f E k)))], M)) rfl rfl rfl ?_
                    refine ps_if2 (S1 := (128, [], [], M)) (S2 := (108, [(0, .ref m0), (1, .int (nI k)), (2, .int (nI t)), (3, .int 1)], [], M)) rfl rfl rfl (fun c_105 => ?_) (fun c_105 => ?_)
                    · have c_105 : ¬ (nI (tg f E (se f E k))) = 12 := of_decide_eq_true c_105
                      have n_105 : ¬ (tg f E (se f E k) = 12) := fun h9 => c_105 ((eq_nI (p := tg f E (se f E k)) (n := 12) (Nat.lt_trans (tg_lt _ _ _) (by decide)) (by decide)).mpr h9)
                      refine ps_st (S' := (129, [], [.int 0], M)) rfl rfl rfl ?_
                      exact ps_ret rfl rfl (⟨congrArg (fun x => some (Value.int (nI x))) (show 0 = lnkN f E k from by
                          have e7 := lnk_7 (f := f) (E := E) (k := fi f E k)
                          have e10 := mem_9 (f := f) (E := E) (k := k)
                          have e11 := pair_9 (f := f) (E := E) (k := se f E k)
                          have b2 := le1_mem f E k
                          unfold lnkN
                          first | ((repeat first | rw [if_pos (by omega)] | rw [if_neg (by omega)]) <;> first | rfl | omega) | ((repeat' split) <;> first | rfl | (exfalso; omega) | omega)), rfl⟩)
                    · have c_105 : ¬ (¬ (nI (tg f E (se f E k))) = 12) := of_decide_eq_false c_105
                      have n_105 : tg f E (se f E k) = 12 := (eq_nI (p := tg f E (se f E k)) (n := 12) (Nat.lt_trans (tg_lt _ _ _) (by decide)) (by decide)).mp (Decidable.not_not.mp c_105)
                      refine ps_st (S' := (109, [(0, .ref m0), (1, .int (nI k)), (2, .int (nI t)), (3, .int 1)], [.ref m0], M)) rfl rfl rfl ?_
                      refine ps_st (S' := (110, [(0, .ref m0), (1, .int (nI k)), (2, .int (nI t)), (3, .int 1)], [.ref m0, .ref m0], M)) rfl rfl rfl ?_
                      refine ps_st (S' := (111, [(0, .ref m0), (1, .int (nI k)), (2, .int (nI t)), (3, .int 1)], [.int (nI k), .ref m0, .ref m0], M)) rfl rfl rfl ?_
                      refine ps_st (S' := (112, [(0, .ref m0), (1, .int (nI k)), (2, .int (nI t)), (3, .int 1)], [.int 3, .int (nI k), .ref m0, .ref m0], M)) rfl rfl rfl ?_
                      refine pl_call (a := [.ref m0, .int (nI k), .int 3]) (rest := [.ref m0]) rfl rfl rfl (rd_idx3 (n := n) (f := f) (tx := tx) (cN := cN) (A := A) (N := N) (mj := mj) (E := E) (k := k) hR hi51 hi52 hi53 hF hY hP (hEP) (hN) (hmj) (by omega)) (fun v91 M92 q93 => ?_)
                      obtain ⟨rfl, rfl⟩ := q93
                      show pl _ _ _ (115, [(0, .ref m0), (1, .int (nI k)), (2, .int (nI t)), (3, .int 1)], [.int (nI (se f E k)), .ref m0], M) _
                      have hix_112 := se_lt f E k
                      refine ps_st (S' := (117, [(0, .ref m0), (1, .int (nI k)), (2, .int (nI t)), (3, .int 1)], [.int 12, .int (nI (se f E k)), .ref m0], M)) rfl rfl rfl ?_
                      refine ps_st (S' := (118, [(0, .ref m0), (1, .int (nI k)), (2, .int (nI t)), (3, .int 1)], [.int 0, .int 12, .int (nI (se f E k)), .ref m0], M)) rfl rfl rfl ?_
                      refine pl_call (a := [.ref m0, .int (nI (se f E k)), .int 12, .int 0]) (rest := []) rfl rfl rfl (rd_ix12 (n := n) (f := f) (tx := tx) (cN := cN) (A := A) (N := N) (mj := mj) (E := E) (k := (se f E k)) hR hi51 hi52 hi53 hF hY hP (hEP) (hN) (hmj) (by omega)) (fun v94 M95 q96 => ?_)
                      obtain ⟨rfl, rfl⟩ := q96
                      show pl _ _ _ (121, [(0, .ref m0), (1, .int (nI k)), (2, .int (nI t)), (3, .int 1)], [.int (nI (pairN f E (se f E k)))], M) _
                      refine ps_if (S1 := (128, [], [], M)) (S2 := (124, [(0, .ref m0), (1, .int (nI k)), (2, .int (nI t)), (3, .int 1)], [], M)) rfl rfl rfl (fun c_121 => ?_) (fun c_121 => ?_)
                      · have c_121 : (nI (pairN f E (se f E k))) = 0 := of_decide_eq_true c_121
                        have n_121 : pairN f E (se f E k) = 0 := (eq_nI (p := pairN f E (se f E k)) (n := 0) (Nat.lt_trans (le1_pair _ _ _) (by decide)) (by decide)).mp c_121
                        refine ps_st (S' := (129, [], [.int 0], M)) rfl rfl rfl ?_
                        exact ps_ret rfl rfl (⟨congrArg (fun x => some (Value.int (nI x))) (show 0 = lnkN f E k from by
                            have e7 := lnk_7 (f := f) (E := E) (k := fi f E k)
                            have e10 := mem_9 (f := f) (E := E) (k := k)
                            have e11 := pair_9 (f := f) (E := E) (k := se f E k)
                            have b2 := le1_mem f E k
                            unfold lnkN
                            first | ((repeat first | rw [if_pos (by omega)] | rw [if_neg (by omega)]) <;> first | rfl | omega) | ((repeat' split) <;> first | rfl | (exfalso; omega) | omega)), rfl⟩)
                      · have c_121 : ¬ ((nI (pairN f E (se f E k))) = 0) := of_decide_eq_false c_121
                        have n_121 : ¬ (pairN f E (se f E k) = 0) := fun h9 => c_121 ((eq_nI (p := pairN f E (se f E k)) (n := 0) (Nat.lt_trans (le1_pair _ _ _) (by decide)) (by decide)).mpr h9)
                        refine ps_st (S' := (125, [(0, .ref m0), (1, .int (nI k)), (2, .int (nI t)), (3, .int 1)], [.int 1], M)) rfl rfl rfl ?_
                        refine ps_st (S' := (129, [], [.int 1], M)) rfl rfl rfl ?_
                        exact ps_ret rfl rfl (⟨congrArg (fun x => some (Value.int (nI x))) (show 1 = lnkN f E k from by
                            have e7 := lnk_7 (f := f) (E := E) (k := fi f E k)
                            have e10 := mem_9 (f := f) (E := E) (k := k)
                            have e11 := pair_9 (f := f) (E := E) (k := se f E k)
                            have b2 := le1_mem f E k
                            unfold lnkN
                            first | ((repeat first | rw [if_pos (by omega)] | rw [if_neg (by omega)]) <;> first | rfl | omega) | ((repeat' split) <;> first | rfl | (exfalso; omega) | omega)), rfl⟩)
          · have c_27 : ¬ (¬ (nI t) = 20) := of_decide_eq_false c_27
            have n_27 : t = 20 := (eq_nI (p := t) (n := 20) (by omega) (by decide)).mp (Decidable.not_not.mp c_27)
            refine ps_st (S' := (31, [(0, .ref m0), (1, .int (nI k))], [.ref m0], M)) rfl rfl rfl ?_
            refine ps_st (S' := (32, [(0, .ref m0), (1, .int (nI k))], [.ref m0, .ref m0], M)) rfl rfl rfl ?_
            refine ps_st (S' := (33, [(0, .ref m0), (1, .int (nI k))], [.int (nI k), .ref m0, .ref m0], M)) rfl rfl rfl ?_
            refine ps_st (S' := (34, [(0, .ref m0), (1, .int (nI k))], [.int 1, .int (nI k), .ref m0, .ref m0], M)) rfl rfl rfl ?_
            refine pl_call (a := [.ref m0, .int (nI k), .int 1]) (rest := [.ref m0]) rfl rfl rfl (rd_idx1 (n := n) (f := f) (tx := tx) (cN := cN) (A := A) (N := N) (mj := mj) (E := E) (k := k) hR hi51 hi52 hi53 hF hY hP (hEP) (hN) (hmj) (by omega)) (fun v97 M98 q99 => ?_)
            obtain ⟨rfl, rfl⟩ := q99
            show pl _ _ _ (37, [(0, .ref m0), (1, .int (nI k))], [.int (nI (fi f E k)), .ref m0], M) _
            have hix_34 := fi_lt f E k
            refine pl_call (a := [.ref m0, .int (nI (fi f E k))]) (rest := []) rfl rfl rfl (rd_tag (n := n) (f := f) (tx := tx) (cN := cN) (A := A) (N := N) (mj := mj) (E := E) (k := (fi f E k)) hR hi51 hi52 hi53 hF hY hP (hEP) (hN) (hmj) (fi_lt _ _ _)) (fun v100 M101 q102 => ?_)
            obtain ⟨rfl, rfl⟩ := q102
            show pl _ _ _ (40, [(0, .ref m0), (1, .int (nI k))], [.int (nI (tg f E (fi f E k)))], M) _
            have htg_37 := tg_lt f E (fi f E k)
            refine ps_st (S' := (41, [(0, .ref m0), (1, .int (nI k))], [.int 1, .int (nI (tg f E (fi f E k)))], M)) rfl rfl rfl ?_
            refine ps_if2 (S1 := (48, [(0, .ref m0), (1, .int (nI k))], [], M)) (S2 := (44, [(0, .ref m0), (1, .int (nI k))], [], M)) rfl rfl rfl (fun c_41 => ?_) (fun c_41 => ?_)
            · have c_41 : ¬ (nI (tg f E (fi f E k))) = 1 := of_decide_eq_true c_41
              have n_41 : ¬ (tg f E (fi f E k) = 1) := fun h9 => c_41 ((eq_nI (p := tg f E (fi f E k)) (n := 1) (Nat.lt_trans (tg_lt _ _ _) (by decide)) (by decide)).mpr h9)
              refine ps_st (S' := (49, [], [.int 0], M)) rfl rfl rfl ?_
              exact ps_ret rfl rfl (⟨congrArg (fun x => some (Value.int (nI x))) (show 0 = lnkN f E k from by
                  unfold lnkN
                  first | ((repeat first | rw [if_pos (by omega)] | rw [if_neg (by omega)]) <;> first | rfl | omega) | ((repeat' split) <;> first | rfl | (exfalso; omega) | omega)), rfl⟩)
            · have c_41 : ¬ (¬ (nI (tg f E (fi f E k))) = 1) := of_decide_eq_false c_41
              have n_41 : tg f E (fi f E k) = 1 := (eq_nI (p := tg f E (fi f E k)) (n := 1) (Nat.lt_trans (tg_lt _ _ _) (by decide)) (by decide)).mp (Decidable.not_not.mp c_41)
              refine ps_st (S' := (45, [(0, .ref m0), (1, .int (nI k))], [.int 1], M)) rfl rfl rfl ?_
              refine ps_st (S' := (49, [], [.int 1], M)) rfl rfl rfl ?_
              exact ps_ret rfl rfl (⟨congrArg (fun x => some (Value.int (nI x))) (show 1 = lnkN f E k from by
                  unfold lnkN
                  first | ((repeat first | rw [if_pos (by omega)] | rw [if_neg (by omega)]) <;> first | rfl | omega) | ((repeat' split) <;> first | rfl | (exfalso; omega) | omega)), rfl⟩)
