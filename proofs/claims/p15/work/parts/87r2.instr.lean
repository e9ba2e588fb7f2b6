/-! whether operands hold, as the reference tells it (my own text) -/
section CYA
variable {f : Nat → Int32} {n : Nat} {E : List (Nat × Nat)} {tx : List (List Nat)} {cN : Nat} {A : Nat → Nat} {I : rI} {R : rR}
/-- what a pool that holds tells of its entries -/
def PF (f : Nat → Int32) (n : Nat) (E : List (Nat × Nat)) : Prop := ∀ k, ((9 ≤ tg f E k ∧ tg f E k ≤ 11) ∨ tg f E k = 17 ∨ tg f E k = 18 → tg f E (se f E k) = 12 ∧ tg f E (fi f E (se f E k)) = 1 ∧ tg f E (se f E (se f E k)) = 1) ∧
  (tg f E k = 17 → ¬ fldN (tX f n E (se f E (se f E k))) = 0) ∧ (tg f E k = 10 ∨ tg f E k = 11 → ¬ mthN (tX f n E (se f E (se f E k))) = 0) ∧ (tg f E k = 11 → niN f n E k = 0)
theorem sy_ni {s s9 : Nat} {l : List Nat} (hY : SYT tx cN A I R) (h : s < tx.length ∧ tx.getD s [] = l) (h9 : s9 < tx.length ∧ tx.getD s9 [] = ltx 14) : eqN l (ltx 14) = 0 ↔ ¬ s = s9 := by
  unfold eqN
  by_cases e : l = ltx 14
  · rw [if_pos e]
    have := hY.2.2.2.2 s s9 h.1 h9.1 (by rw [h.2, h9.2, e])
    exact ⟨fun h8 => absurd h8 (by decide), fun h8 => absurd this h8⟩
  · rw [if_neg e]
    refine ⟨fun _ h8 => e ?_, fun _ => rfl⟩
    subst h8
    exact h.2.symm.trans h9.2
theorem dc_wd {v : Nat} (h1 : tg f E (se f E (se f E v)) = 1) (h2 : ¬ fldN (tX f n E (se f E (se f E v))) = 0) : dcI f n E v = nI (wdN ((tX f n E (se f E (se f E v))).getD 0 0) + 1) := by
  have h3 := se_lt f E (se f E v)
  unfold dcI plX
  rw [nI_toNat (by omega), if_pos h1]
  exact (plT_f h2 (pW_wd _).symm rfl).symm
theorem dc_1 {v : Nat} (h1 : tg f E (se f E (se f E v)) = 1) (h2 : ¬ fldN (tX f n E (se f E (se f E v))) = 0) : dcI f n E v = 1 ↔ wdN ((tX f n E (se f E (se f E v))).getD 0 0) = 0 := by
  have h3 := le1_wd ((tX f n E (se f E (se f E v))).getD 0 0)
  rw [dc_wd h1 h2, show (1 : Int32) = nI 1 from rfl, eq_nI (by omega) (by decide)]
  omega
theorem dc_2 {v : Nat} (h1 : tg f E (se f E (se f E v)) = 1) (h2 : ¬ fldN (tX f n E (se f E (se f E v))) = 0) : dcI f n E v = 2 ↔ ¬ wdN ((tX f n E (se f E (se f E v))).getD 0 0) = 0 := by
  have h3 := le1_wd ((tX f n E (se f E (se f E v))).getD 0 0)
  rw [dc_wd h1 h2, show (2 : Int32) = nI 2 from rfl, eq_nI (by omega) (by decide)]
  omega
theorem dm_0 {l : List Nat} (h : 0 < l.length) : dmN l = 0 ↔ ¬ l.getD 0 0 = 91 := by
  cases l with
  | nil => exact absurd h (by decide)
  | cons c r =>
    show dmN (c :: r) = 0 ↔ ¬ c = 91
    unfold dmN
    by_cases e : c = 91
    · rw [if_pos e]
      omega
    · rw [if_neg e]
      exact ⟨fun _ => e, fun _ => rfl⟩
end CYA
set_option maxHeartbeats 1000000 in
theorem rd_op168 {g : xe_G} {m0 : Nat} {q : Nat → Nat} {z : Nat × Nat} {I : rI} {R : rR} {M : mi_H} {n : Nat} {f : Nat → Int32} {tx : List (List Nat)} {cN : Nat} {A : Nat → Nat} {N mj : Nat} {E : List (Nat × Nat)} {cb ml s9 pc : Nat} (hR : RS g m0 q z I R M) (hi51 : I 51 = some 0) (hi52 : I 52 = some (nI N)) (hi53 : I 53 = some (nI mj)) (hi77 : I 77 = some (nI cb)) (hi79 : I 79 = some (nI ml)) (hi9 : I 9 = some (nI s9)) (hF : FK n f I R) (hY : SYT tx cN A I R) (hP : RPV f n E tx N I R) (hEP : EP f n E) (hN : N < 65536) (hmj : mj < 65536) (hml : ml < 65536) (hs9 : s9 < tx.length ∧ tx.getD s9 [] = ltx 14) (hCP : CP f n E) (hPF : PF f n E) (hin : cb + pc + 3 ≤ n) : pt (mT g) 228 [.ref m0, .int (nI pc), .int 168] M (fun v M' => (v = some (.int (nI (if mj < 51 then 1 else 0))) ∧ M = M')) := by
  refine pt_in (b := mb_228 g) rfl (fun kf => ?_)
  show pl (mT g) kf (mb_228 g).2 (0, [(0, .ref m0), (1, .int (nI pc)), (2, .int 168)], [], M) _
  have hn := hF.1
  have htl := hY.1.2.2.1
  refine ps_st (S' := (1, [(0, .ref m0), (1, .int (nI pc)), (2, .int 168)], [.int 168], M)) rfl rfl rfl ?_
  refine ps_st (S' := (4, [(0, .ref m0), (1, .int (nI pc)), (2, .int 168)], [.int 168, .int 168], M)) rfl rfl rfl ?_
  refine ps_if2 (S1 := (21, [(0, .ref m0), (1, .int (nI pc)), (2, .int 168)], [], M)) (S2 := (7, [(0, .ref m0), (1, .int (nI pc)), (2, .int 168)], [], M)) rfl rfl rfl (fun c_4 => ?_) (fun c_4 => ?_)
  rotate_left
  · exact absurd (by decide) (of_decide_eq_false c_4)
  refine ps_st (S' := (22, [(0, .ref m0), (1, .int (nI pc)), (2, .int 168)], [.ref m0], M)) rfl rfl rfl ?_
  refine pr_int (j := 53) (S' := (25, [(0, .ref m0), (1, .int (nI pc)), (2, .int 168)], [.int (nI mj)], M)) rfl hR rfl hi53 rfl ?_
  refine ps_st (S' := (27, [(0, .ref m0), (1, .int (nI pc)), (2, .int 168)], [.int 51, .int (nI mj)], M)) rfl rfl rfl ?_
  refine ps_if2 (S1 := (56, [], [], M)) (S2 := (30, [(0, .ref m0), (1, .int (nI pc)), (2, .int 168)], [], M)) rfl rfl rfl (fun c_27 => ?_) (fun c_27 => ?_)
  · have c_27 : 51 ≤ (nI mj) := of_decide_eq_true c_27
    have n_27 : 51 ≤ mj := (le_nI (p := 51) (n := mj) (by decide) (by omega)).mp c_27
    refine ps_st (S' := (57, [], [.int 0], M)) rfl rfl rfl ?_
    exact ps_ret rfl rfl (⟨congrArg (fun x => some (Value.int (nI x))) (show 0 = if mj < 51 then 1 else 0 from by
        first | ((repeat first | rw [if_pos (by omega)] | rw [if_neg (by omega)]) <;> first | rfl | omega) | ((repeat' split) <;> first | rfl | (exfalso; omega) | omega)), rfl⟩)
  · have c_27 : ¬ (51 ≤ (nI mj)) := of_decide_eq_false c_27
    have n_27 : ¬ (51 ≤ mj) := fun h9 => c_27 ((le_nI (p := 51) (n := mj) (by decide) (by omega)).mpr h9)
    refine ps_st (S' := (31, [(0, .ref m0), (1, .int (nI pc)), (2, .int 168)], [.int 168], M)) rfl rfl rfl ?_
    refine ps_st (S' := (34, [(0, .ref m0), (1, .int (nI pc)), (2, .int 168)], [.int 169, .int 168], M)) rfl rfl rfl ?_
    refine ps_if2 (S1 := (52, [], [], M)) (S2 := (37, [(0, .ref m0), (1, .int (nI pc)), (2, .int 168)], [], M)) rfl rfl rfl (fun c_34 => ?_) (fun c_34 => ?_)
    rotate_left
    · exact absurd (by decide) (of_decide_eq_false c_34)
    refine ps_st (S' := (53, [], [.int 1], M)) rfl rfl rfl ?_
    refine ps_st (S' := (57, [], [.int 1], M)) rfl rfl rfl ?_
    exact ps_ret rfl rfl (⟨congrArg (fun x => some (Value.int (nI x))) (show 1 = if mj < 51 then 1 else 0 from by
        first | ((repeat first | rw [if_pos (by omega)] | rw [if_neg (by omega)]) <;> first | rfl | omega) | ((repeat' split) <;> first | rfl | (exfalso; omega) | omega)), rfl⟩)
set_option maxHeartbeats 1000000 in
theorem rd_op201 {g : xe_G} {m0 : Nat} {q : Nat → Nat} {z : Nat × Nat} {I : rI} {R : rR} {M : mi_H} {n : Nat} {f : Nat → Int32} {tx : List (List Nat)} {cN : Nat} {A : Nat → Nat} {N mj : Nat} {E : List (Nat × Nat)} {cb ml s9 pc : Nat} (hR : RS g m0 q z I R M) (hi51 : I 51 = some 0) (hi52 : I 52 = some (nI N)) (hi53 : I 53 = some (nI mj)) (hi77 : I 77 = some (nI cb)) (hi79 : I 79 = some (nI ml)) (hi9 : I 9 = some (nI s9)) (hF : FK n f I R) (hY : SYT tx cN A I R) (hP : RPV f n E tx N I R) (hEP : EP f n E) (hN : N < 65536) (hmj : mj < 65536) (hml : ml < 65536) (hs9 : s9 < tx.length ∧ tx.getD s9 [] = ltx 14) (hCP : CP f n E) (hPF : PF f n E) (hin : cb + pc + 5 ≤ n) : pt (mT g) 228 [.ref m0, .int (nI pc), .int 201] M (fun v M' => (v = some (.int (nI (if mj < 51 then 1 else 0))) ∧ M = M')) := by
  refine pt_in (b := mb_228 g) rfl (fun kf => ?_)
  show pl (mT g) kf (mb_228 g).2 (0, [(0, .ref m0), (1, .int (nI pc)), (2, .int 201)], [], M) _
  have hn := hF.1
  have htl := hY.1.2.2.1
  refine ps_st (S' := (1, [(0, .ref m0), (1, .int (nI pc)), (2, .int 201)], [.int 201], M)) rfl rfl rfl ?_
  refine ps_st (S' := (4, [(0, .ref m0), (1, .int (nI pc)), (2, .int 201)], [.int 168, .int 201], M)) rfl rfl rfl ?_
  refine ps_if2 (S1 := (21, [(0, .ref m0), (1, .int (nI pc)), (2, .int 201)], [], M)) (S2 := (7, [(0, .ref m0), (1, .int (nI pc)), (2, .int 201)], [], M)) rfl rfl rfl (fun c_4 => ?_) (fun c_4 => ?_)
  · exact absurd (of_decide_eq_true c_4) (by decide)
  refine ps_st (S' := (8, [(0, .ref m0), (1, .int (nI pc)), (2, .int 201)], [.int 201], M)) rfl rfl rfl ?_
  refine ps_st (S' := (11, [(0, .ref m0), (1, .int (nI pc)), (2, .int 201)], [.int 169, .int 201], M)) rfl rfl rfl ?_
  refine ps_if2 (S1 := (21, [(0, .ref m0), (1, .int (nI pc)), (2, .int 201)], [], M)) (S2 := (14, [(0, .ref m0), (1, .int (nI pc)), (2, .int 201)], [], M)) rfl rfl rfl (fun c_11 => ?_) (fun c_11 => ?_)
  · exact absurd (of_decide_eq_true c_11) (by decide)
  refine ps_st (S' := (15, [(0, .ref m0), (1, .int (nI pc)), (2, .int 201)], [.int 201], M)) rfl rfl rfl ?_
  refine ps_st (S' := (18, [(0, .ref m0), (1, .int (nI pc)), (2, .int 201)], [.int 201, .int 201], M)) rfl rfl rfl ?_
  refine ps_if2 (S1 := (58, [(0, .ref m0), (1, .int (nI pc)), (2, .int 201)], [], M)) (S2 := (21, [(0, .ref m0), (1, .int (nI pc)), (2, .int 201)], [], M)) rfl rfl rfl (fun c_18 => ?_) (fun c_18 => ?_)
  · exact absurd (of_decide_eq_true c_18) (by decide)
  refine ps_st (S' := (22, [(0, .ref m0), (1, .int (nI pc)), (2, .int 201)], [.ref m0], M)) rfl rfl rfl ?_
  refine pr_int (j := 53) (S' := (25, [(0, .ref m0), (1, .int (nI pc)), (2, .int 201)], [.int (nI mj)], M)) rfl hR rfl hi53 rfl ?_
  refine ps_st (S' := (27, [(0, .ref m0), (1, .int (nI pc)), (2, .int 201)], [.int 51, .int (nI mj)], M)) rfl rfl rfl ?_
  refine ps_if2 (S1 := (56, [], [], M)) (S2 := (30, [(0, .ref m0), (1, .int (nI pc)), (2, .int 201)], [], M)) rfl rfl rfl (fun c_27 => ?_) (fun c_27 => ?_)
  · have c_27 : 51 ≤ (nI mj) := of_decide_eq_true c_27
    have n_27 : 51 ≤ mj := (le_nI (p := 51) (n := mj) (by decide) (by omega)).mp c_27
    refine ps_st (S' := (57, [], [.int 0], M)) rfl rfl rfl ?_
    exact ps_ret rfl rfl (⟨congrArg (fun x => some (Value.int (nI x))) (show 0 = if mj < 51 then 1 else 0 from by
        first | ((repeat first | rw [if_pos (by omega)] | rw [if_neg (by omega)]) <;> first | rfl | omega) | ((repeat' split) <;> first | rfl | (exfalso; omega) | omega)), rfl⟩)
  · have c_27 : ¬ (51 ≤ (nI mj)) := of_decide_eq_false c_27
    have n_27 : ¬ (51 ≤ mj) := fun h9 => c_27 ((le_nI (p := 51) (n := mj) (by decide) (by omega)).mpr h9)
    refine ps_st (S' := (31, [(0, .ref m0), (1, .int (nI pc)), (2, .int 201)], [.int 201], M)) rfl rfl rfl ?_
    refine ps_st (S' := (34, [(0, .ref m0), (1, .int (nI pc)), (2, .int 201)], [.int 169, .int 201], M)) rfl rfl rfl ?_
    refine ps_if2 (S1 := (52, [], [], M)) (S2 := (37, [(0, .ref m0), (1, .int (nI pc)), (2, .int 201)], [], M)) rfl rfl rfl (fun c_34 => ?_) (fun c_34 => ?_)
    rotate_left
    · exact absurd (by decide) (of_decide_eq_false c_34)
    refine ps_st (S' := (53, [], [.int 1], M)) rfl rfl rfl ?_
    refine ps_st (S' := (57, [], [.int 1], M)) rfl rfl rfl ?_
    exact ps_ret rfl rfl (⟨congrArg (fun x => some (Value.int (nI x))) (show 1 = if mj < 51 then 1 else 0 from by
        first | ((repeat first | rw [if_pos (by omega)] | rw [if_neg (by omega)]) <;> first | rfl | omega) | ((repeat' split) <;> first | rfl | (exfalso; omega) | omega)), rfl⟩)
set_option maxHeartbeats 1000000 in
theorem rd_op169 {g : xe_G} {m0 : Nat} {q : Nat → Nat} {z : Nat × Nat} {I : rI} {R : rR} {M : mi_H} {n : Nat} {f : Nat → Int32} {tx : List (List Nat)} {cN : Nat} {A : Nat → Nat} {N mj : Nat} {E : List (Nat × Nat)} {cb ml s9 pc : Nat} (hR : RS g m0 q z I R M) (hi51 : I 51 = some 0) (hi52 : I 52 = some (nI N)) (hi53 : I 53 = some (nI mj)) (hi77 : I 77 = some (nI cb)) (hi79 : I 79 = some (nI ml)) (hi9 : I 9 = some (nI s9)) (hF : FK n f I R) (hY : SYT tx cN A I R) (hP : RPV f n E tx N I R) (hEP : EP f n E) (hN : N < 65536) (hmj : mj < 65536) (hml : ml < 65536) (hs9 : s9 < tx.length ∧ tx.getD s9 [] = ltx 14) (hCP : CP f n E) (hPF : PF f n E) (hin : cb + pc + 2 ≤ n) : pt (mT g) 228 [.ref m0, .int (nI pc), .int 169] M (fun v M' => (v = some (.int (nI (if mj < 51 ∧ by1 f (cb + pc + 1) + 1 ≤ ml then 1 else 0))) ∧ M = M')) := by
  refine pt_in (b := mb_228 g) rfl (fun kf => ?_)
  show pl (mT g) kf (mb_228 g).2 (0, [(0, .ref m0), (1, .int (nI pc)), (2, .int 169)], [], M) _
  have hn := hF.1
  have htl := hY.1.2.2.1
  refine ps_st (S' := (1, [(0, .ref m0), (1, .int (nI pc)), (2, .int 169)], [.int 169], M)) rfl rfl rfl ?_
  refine ps_st (S' := (4, [(0, .ref m0), (1, .int (nI pc)), (2, .int 169)], [.int 168, .int 169], M)) rfl rfl rfl ?_
  refine ps_if2 (S1 := (21, [(0, .ref m0), (1, .int (nI pc)), (2, .int 169)], [], M)) (S2 := (7, [(0, .ref m0), (1, .int (nI pc)), (2, .int 169)], [], M)) rfl rfl rfl (fun c_4 => ?_) (fun c_4 => ?_)
  · exact absurd (of_decide_eq_true c_4) (by decide)
  refine ps_st (S' := (8, [(0, .ref m0), (1, .int (nI pc)), (2, .int 169)], [.int 169], M)) rfl rfl rfl ?_
  refine ps_st (S' := (11, [(0, .ref m0), (1, .int (nI pc)), (2, .int 169)], [.int 169, .int 169], M)) rfl rfl rfl ?_
  refine ps_if2 (S1 := (21, [(0, .ref m0), (1, .int (nI pc)), (2, .int 169)], [], M)) (S2 := (14, [(0, .ref m0), (1, .int (nI pc)), (2, .int 169)], [], M)) rfl rfl rfl (fun c_11 => ?_) (fun c_11 => ?_)
  rotate_left
  · exact absurd (by decide) (of_decide_eq_false c_11)
  refine ps_st (S' := (22, [(0, .ref m0), (1, .int (nI pc)), (2, .int 169)], [.ref m0], M)) rfl rfl rfl ?_
  refine pr_int (j := 53) (S' := (25, [(0, .ref m0), (1, .int (nI pc)), (2, .int 169)], [.int (nI mj)], M)) rfl hR rfl hi53 rfl ?_
  refine ps_st (S' := (27, [(0, .ref m0), (1, .int (nI pc)), (2, .int 169)], [.int 51, .int (nI mj)], M)) rfl rfl rfl ?_
  refine ps_if2 (S1 := (56, [], [], M)) (S2 := (30, [(0, .ref m0), (1, .int (nI pc)), (2, .int 169)], [], M)) rfl rfl rfl (fun c_27 => ?_) (fun c_27 => ?_)
  · have c_27 : 51 ≤ (nI mj) := of_decide_eq_true c_27
    have n_27 : 51 ≤ mj := (le_nI (p := 51) (n := mj) (by decide) (by omega)).mp c_27
    refine ps_st (S' := (57, [], [.int 0], M)) rfl rfl rfl ?_
    exact ps_ret rfl rfl (⟨congrArg (fun x => some (Value.int (nI x))) (show 0 = if mj < 51 ∧ by1 f (cb + pc + 1) + 1 ≤ ml then 1 else 0 from by
        first | ((repeat first | rw [if_pos (by omega)] | rw [if_neg (by omega)]) <;> first | rfl | omega) | ((repeat' split) <;> first | rfl | (exfalso; omega) | omega)), rfl⟩)
  · have c_27 : ¬ (51 ≤ (nI mj)) := of_decide_eq_false c_27
    have n_27 : ¬ (51 ≤ mj) := fun h9 => c_27 ((le_nI (p := 51) (n := mj) (by decide) (by omega)).mpr h9)
    refine ps_st (S' := (31, [(0, .ref m0), (1, .int (nI pc)), (2, .int 169)], [.int 169], M)) rfl rfl rfl ?_
    refine ps_st (S' := (34, [(0, .ref m0), (1, .int (nI pc)), (2, .int 169)], [.int 169, .int 169], M)) rfl rfl rfl ?_
    refine ps_if2 (S1 := (52, [], [], M)) (S2 := (37, [(0, .ref m0), (1, .int (nI pc)), (2, .int 169)], [], M)) rfl rfl rfl (fun c_34 => ?_) (fun c_34 => ?_)
    · exact absurd (of_decide_eq_true c_34) (by decide)
    refine ps_st (S' := (38, [(0, .ref m0), (1, .int (nI pc)), (2, .int 169)], [.ref m0], M)) rfl rfl rfl ?_
    refine ps_st (S' := (39, [(0, .ref m0), (1, .int (nI pc)), (2, .int 169)], [.ref m0, .ref m0], M)) rfl rfl rfl ?_
    refine ps_st (S' := (40, [(0, .ref m0), (1, .int (nI pc)), (2, .int 169)], [.int (nI pc), .ref m0, .ref m0], M)) rfl rfl rfl ?_
    refine ps_st (S' := (41, [(0, .ref m0), (1, .int (nI pc)), (2, .int 169)], [.int 1, .int (nI pc), .ref m0, .ref m0], M)) rfl rfl rfl ?_
    refine ps_st (S' := (42, [(0, .ref m0), (1, .int (nI pc)), (2, .int 169)], [.int ((nI pc) + 1), .ref m0, .ref m0], M)) rfl rfl rfl ?_
    rw [nI_add1 (p := pc) (k := 1) (x := 1) rfl (by omega)]
    show pl _ _ _ (_, [(0, .ref m0), (1, .int (nI pc)), (2, .int 169)], [.int (nI (pc + 1)), .ref m0, .ref m0], M) _
    refine pl_call (a := [.ref m0, .int (nI (pc + 1))]) (rest := [.ref m0]) rfl rfl rfl (rd_b1 (n := n) (f := f) (cb := cb) (p := (pc + 1)) hR hi77 hF (by omega)) (fun v1 M2 q3 => ?_)
    obtain ⟨rfl, rfl⟩ := q3
    show pl _ _ _ (45, [(0, .ref m0), (1, .int (nI pc)), (2, .int 169)], [.int (nI (by1 f (cb + (pc + 1)))), .ref m0], M) _
    show pl _ _ _ (_, [(0, .ref m0), (1, .int (nI pc)), (2, .int 169)], [.int (nI (by1 f (cb + pc + 1))), .ref m0], M) _
    have hb_42 := by1_lt f (cb + pc + 1)
    refine ps_st (S' := (46, [(0, .ref m0), (1, .int (nI pc)), (2, .int 169)], [.int 1, .int (nI (by1 f (cb + pc + 1))), .ref m0], M)) rfl rfl rfl ?_
    refine pl_call (a := [.ref m0, .int (nI (by1 f (cb + pc + 1))), .int 1]) (rest := []) rfl rfl rfl (rd_local (i := (by1 f (cb + pc + 1))) (k := 1) (ml := ml) hR hi79 (by omega) (by omega) (hml)) (fun v4 M5 q6 => ?_)
    obtain ⟨rfl, rfl⟩ := q6
    show pl _ _ _ (49, [(0, .ref m0), (1, .int (nI pc)), (2, .int 169)], [.int (nI (loN (by1 f (cb + pc + 1)) 1 ml))], M) _
    have hlo_46 := lo_9 (i := (by1 f (cb + pc + 1))) (k := 1) (ml := ml)
    have hlb_46 := le1_lo (by1 f (cb + pc + 1)) 1 ml
    refine ps_if (S1 := (56, [], [], M)) (S2 := (52, [], [], M)) rfl rfl rfl (fun c_49 => ?_) (fun c_49 => ?_)
    · have c_49 : (nI (loN (by1 f (cb + pc + 1)) 1 ml)) = 0 := of_decide_eq_true c_49
      have n_49 : loN (by1 f (cb + pc + 1)) 1 ml = 0 := (eq_nI (p := loN (by1 f (cb + pc + 1)) 1 ml) (n := 0) (Nat.lt_trans (le1_lo _ _ _) (by decide)) (by decide)).mp c_49
      refine ps_st (S' := (57, [], [.int 0], M)) rfl rfl rfl ?_
      exact ps_ret rfl rfl (⟨congrArg (fun x => some (Value.int (nI x))) (show 0 = if mj < 51 ∧ by1 f (cb + pc + 1) + 1 ≤ ml then 1 else 0 from by
          first | ((repeat first | rw [if_pos (by omega)] | rw [if_neg (by omega)]) <;> first | rfl | omega) | ((repeat' split) <;> first | rfl | (exfalso; omega) | omega)), rfl⟩)
    · have c_49 : ¬ ((nI (loN (by1 f (cb + pc + 1)) 1 ml)) = 0) := of_decide_eq_false c_49
      have n_49 : ¬ (loN (by1 f (cb + pc + 1)) 1 ml = 0) := fun h9 => c_49 ((eq_nI (p := loN (by1 f (cb + pc + 1)) 1 ml) (n := 0) (Nat.lt_trans (le1_lo _ _ _) (by decide)) (by decide)).mpr h9)
      refine ps_st (S' := (53, [], [.int 1], M)) rfl rfl rfl ?_
      refine ps_st (S' := (57, [], [.int 1], M)) rfl rfl rfl ?_
      exact ps_ret rfl rfl (⟨congrArg (fun x => some (Value.int (nI x))) (show 1 = if mj < 51 ∧ by1 f (cb + pc + 1) + 1 ≤ ml then 1 else 0 from by
          first | ((repeat first | rw [if_pos (by omega)] | rw [if_neg (by omega)]) <;> first | rfl | omega) | ((repeat' split) <;> first | rfl | (exfalso; omega) | omega)), rfl⟩)
set_option maxHeartbeats 1000000 in
theorem rd_opL {g : xe_G} {m0 : Nat} {q : Nat → Nat} {z : Nat × Nat} {I : rI} {R : rR} {M : mi_H} {n : Nat} {f : Nat → Int32} {tx : List (List Nat)} {cN : Nat} {A : Nat → Nat} {N mj : Nat} {E : List (Nat × Nat)} {cb ml s9 pc : Nat} {op : Nat} (hR : RS g m0 q z I R M) (hi51 : I 51 = some 0) (hi52 : I 52 = some (nI N)) (hi53 : I 53 = some (nI mj)) (hi77 : I 77 = some (nI cb)) (hi79 : I 79 = some (nI ml)) (hi9 : I 9 = some (nI s9)) (hF : FK n f I R) (hY : SYT tx cN A I R) (hP : RPV f n E tx N I R) (hEP : EP f n E) (hN : N < 65536) (hmj : mj < 65536) (hml : ml < 65536) (hs9 : s9 < tx.length ∧ tx.getD s9 [] = ltx 14) (hCP : CP f n E) (hPF : PF f n E) (hin : cb + pc + 2 ≤ n) (ho : (21 ≤ op ∧ op ≤ 25) ∨ (54 ≤ op ∧ op ≤ 58)) : pt (mT g) 228 [.ref m0, .int (nI pc), .int (nI op)] M (fun v M' => (v = some (.int (nI (loN (by1 f (cb + pc + 1)) (lpO op) ml))) ∧ M = M')) := by
  refine pt_in (b := mb_228 g) rfl (fun kf => ?_)
  show pl (mT g) kf (mb_228 g).2 (0, [(0, .ref m0), (1, .int (nI pc)), (2, .int (nI op))], [], M) _
  have hn := hF.1
  have htl := hY.1.2.2.1
  refine ps_st (S' := (1, [(0, .ref m0), (1, .int (nI pc)), (2, .int (nI op))], [.int (nI op)], M)) rfl rfl rfl ?_
  refine ps_st (S' := (4, [(0, .ref m0), (1, .int (nI pc)), (2, .int (nI op))], [.int 168, .int (nI op)], M)) rfl rfl rfl ?_
  refine ps_if2 (S1 := (21, [(0, .ref m0), (1, .int (nI pc)), (2, .int (nI op))], [], M)) (S2 := (7, [(0, .ref m0), (1, .int (nI pc)), (2, .int (nI op))], [], M)) rfl rfl rfl (fun c_4 => ?_) (fun c_4 => ?_)
  · exact absurd (of_decide_eq_true c_4) (show ¬ ((nI op) = 168) from fun h9 => absurd ((eq_nI (p := op) (n := 168) (by omega) (by decide)).mp h9) (by omega))
  refine ps_st (S' := (8, [(0, .ref m0), (1, .int (nI pc)), (2, .int (nI op))], [.int (nI op)], M)) rfl rfl rfl ?_
  refine ps_st (S' := (11, [(0, .ref m0), (1, .int (nI pc)), (2, .int (nI op))], [.int 169, .int (nI op)], M)) rfl rfl rfl ?_
  refine ps_if2 (S1 := (21, [(0, .ref m0), (1, .int (nI pc)), (2, .int (nI op))], [], M)) (S2 := (14, [(0, .ref m0), (1, .int (nI pc)), (2, .int (nI op))], [], M)) rfl rfl rfl (fun c_11 => ?_) (fun c_11 => ?_)
  · exact absurd (of_decide_eq_true c_11) (show ¬ ((nI op) = 169) from fun h9 => absurd ((eq_nI (p := op) (n := 169) (by omega) (by decide)).mp h9) (by omega))
  refine ps_st (S' := (15, [(0, .ref m0), (1, .int (nI pc)), (2, .int (nI op))], [.int (nI op)], M)) rfl rfl rfl ?_
  refine ps_st (S' := (18, [(0, .ref m0), (1, .int (nI pc)), (2, .int (nI op))], [.int 201, .int (nI op)], M)) rfl rfl rfl ?_
  refine ps_if2 (S1 := (58, [(0, .ref m0), (1, .int (nI pc)), (2, .int (nI op))], [], M)) (S2 := (21, [(0, .ref m0), (1, .int (nI pc)), (2, .int (nI op))], [], M)) rfl rfl rfl (fun c_18 => ?_) (fun c_18 => ?_)
  rotate_left
  · exact absurd (show ¬ ((nI op) = 201) from fun h9 => absurd ((eq_nI (p := op) (n := 201) (by omega) (by decide)).mp h9) (by omega)) (of_decide_eq_false c_18)
  refine ps_st (S' := (59, [(0, .ref m0), (1, .int (nI pc)), (2, .int (nI op))], [.int (nI op)], M)) rfl rfl rfl ?_
  refine ps_st (S' := (61, [(0, .ref m0), (1, .int (nI pc)), (2, .int (nI op))], [.int 21, .int (nI op)], M)) rfl rfl rfl ?_
  refine ps_if2 (S1 := (70, [(0, .ref m0), (1, .int (nI pc)), (2, .int (nI op))], [], M)) (S2 := (64, [(0, .ref m0), (1, .int (nI pc)), (2, .int (nI op))], [], M)) rfl rfl rfl (fun c_61 => ?_) (fun c_61 => ?_)
  · exact absurd (of_decide_eq_true c_61) (show ¬ ((nI op) < 21) from fun h9 => absurd ((lt_nI (p := op) (n := 21) (by omega) (by decide)).mp h9) (by omega))
  refine ps_st (S' := (65, [(0, .ref m0), (1, .int (nI pc)), (2, .int (nI op))], [.int (nI op)], M)) rfl rfl rfl ?_
  refine ps_st (S' := (67, [(0, .ref m0), (1, .int (nI pc)), (2, .int (nI op))], [.int 25, .int (nI op)], M)) rfl rfl rfl ?_
  refine ps_if2 (S1 := (82, [(0, .ref m0), (1, .int (nI pc)), (2, .int (nI op))], [], M)) (S2 := (70, [(0, .ref m0), (1, .int (nI pc)), (2, .int (nI op))], [], M)) rfl rfl rfl (fun c_67 => ?_) (fun c_67 => ?_)
  · have c_67 : (nI op) ≤ 25 := of_decide_eq_true c_67
    have n_67 : op ≤ 25 := (le_nI (p := op) (n := 25) (by omega) (by decide)).mp c_67
    refine ps_st (S' := (83, [(0, .ref m0), (1, .int (nI pc)), (2, .int (nI op))], [.int (nI op)], M)) rfl rfl rfl ?_
    refine ps_st (S' := (85, [(0, .ref m0), (1, .int (nI pc)), (2, .int (nI op))], [.int 54, .int (nI op)], M)) rfl rfl rfl ?_
    refine ps_if2 (S1 := (95, [(0, .ref m0), (1, .int (nI pc)), (2, .int (nI op))], [], M)) (S2 := (88, [(0, .ref m0), (1, .int (nI pc)), (2, .int (nI op))], [], M)) rfl rfl rfl (fun c_85 => ?_) (fun c_85 => ?_)
    rotate_left
    · exact absurd ((lt_nI (p := op) (n := 54) (by omega) (by decide)).mpr (by omega)) (of_decide_eq_false c_85)
    refine ps_st (S' := (96, [(0, .ref m0), (1, .int (nI pc)), (2, .int (nI op))], [.int (nI op)], M)) rfl rfl rfl ?_
    refine ps_st (S' := (98, [(0, .ref m0), (1, .int (nI pc)), (2, .int (nI op))], [.int 21, .int (nI op)], M)) rfl rfl rfl ?_
    refine ps_st (S' := (99, [(0, .ref m0), (1, .int (nI pc))], [.int ((nI op) - 21)], M)) rfl rfl rfl ?_
    rw [nI_sub1 (p := op) (k := 21) (x := 21) rfl (by omega) (by omega)]
    show pl _ _ _ (_, [(0, .ref m0), (1, .int (nI pc))], [.int (nI (op - 21))], M) _
    refine ps_st (S' := (100, [(3, .int (nI (op - 21))), (0, .ref m0), (1, .int (nI pc))], [], M)) rfl rfl rfl ?_
    refine ps_st (S' := (101, [(3, .int (nI (op - 21))), (0, .ref m0), (1, .int (nI pc))], [.ref m0], M)) rfl rfl rfl ?_
    refine ps_st (S' := (102, [(3, .int (nI (op - 21))), (0, .ref m0), (1, .int (nI pc))], [.ref m0, .ref m0], M)) rfl rfl rfl ?_
    refine ps_st (S' := (103, [(3, .int (nI (op - 21))), (0, .ref m0), (1, .int (nI pc))], [.int (nI pc), .ref m0, .ref m0], M)) rfl rfl rfl ?_
    refine ps_st (S' := (104, [(3, .int (nI (op - 21))), (0, .ref m0), (1, .int (nI pc))], [.int 1, .int (nI pc), .ref m0, .ref m0], M)) rfl rfl rfl ?_
    refine ps_st (S' := (105, [(3, .int (nI (op - 21))), (0, .ref m0), (1, .int (nI pc))], [.int ((nI pc) + 1), .ref m0, .ref m0], M)) rfl rfl rfl ?_
    rw [nI_add1 (p := pc) (k := 1) (x := 1) rfl (by omega)]
    show pl _ _ _ (_, [(3, .int (nI (op - 21))), (0, .ref m0), (1, .int (nI pc))], [.int (nI (pc + 1)), .ref m0, .ref m0], M) _
    refine pl_call (a := [.ref m0, .int (nI (pc + 1))]) (rest := [.ref m0]) rfl rfl rfl (rd_b1 (n := n) (f := f) (cb := cb) (p := (pc + 1)) hR hi77 hF (by omega)) (fun v1 M2 q3 => ?_)
    obtain ⟨rfl, rfl⟩ := q3
    show pl _ _ _ (108, [(3, .int (nI (op - 21))), (0, .ref m0), (1, .int (nI pc))], [.int (nI (by1 f (cb + (pc + 1)))), .ref m0], M) _
    show pl _ _ _ (_, [(3, .int (nI (op - 21))), (0, .ref m0), (1, .int (nI pc))], [.int (nI (by1 f (cb + pc + 1))), .ref m0], M) _
    have hb_105 := by1_lt f (cb + pc + 1)
    refine ps_st (S' := (109, [(3, .int (nI (op - 21))), (0, .ref m0), (1, .int (nI pc))], [.int (nI (op - 21)), .int (nI (by1 f (cb + pc + 1))), .ref m0], M)) rfl rfl rfl ?_
    refine ps_st (S' := (110, [(3, .int (nI (op - 21))), (0, .ref m0), (1, .int (nI pc))], [.int 1, .int (nI (op - 21)), .int (nI (by1 f (cb + pc + 1))), .ref m0], M)) rfl rfl rfl ?_
    refine ps_if2 (S1 := (118, [], [.int (nI (by1 f (cb + pc + 1))), .ref m0], M)) (S2 := (113, [(3, .int (nI (op - 21))), (0, .ref m0), (1, .int (nI pc))], [.int (nI (by1 f (cb + pc + 1))), .ref m0], M)) rfl rfl rfl (fun c_110 => ?_) (fun c_110 => ?_)
    · have c_110 : (nI (op - 21)) = 1 := of_decide_eq_true c_110
      have n_110 : op - 21 = 1 := (eq_nI (p := op - 21) (n := 1) (by omega) (by decide)).mp c_110
      refine ps_st (S' := (119, [], [.int 2, .int (nI (by1 f (cb + pc + 1))), .ref m0], M)) rfl rfl rfl ?_
      refine ps_st (S' := (123, [], [.int 2, .int (nI (by1 f (cb + pc + 1))), .ref m0], M)) rfl rfl rfl ?_
      refine pl_call (a := [.ref m0, .int (nI (by1 f (cb + pc + 1))), .int 2]) (rest := []) rfl rfl rfl (rd_local (i := (by1 f (cb + pc + 1))) (k := 2) (ml := ml) hR hi79 (by omega) (by omega) (hml)) (fun v4 M5 q6 => ?_)
      obtain ⟨rfl, rfl⟩ := q6
      show pl _ _ _ (126, [], [.int (nI (loN (by1 f (cb + pc + 1)) 2 ml))], M) _
      have hlo_123 := lo_9 (i := (by1 f (cb + pc + 1))) (k := 2) (ml := ml)
      have hlb_123 := le1_lo (by1 f (cb + pc + 1)) 2 ml
      exact ps_reti rfl (⟨congrArg (fun x => some (Value.int (nI x))) (show loN (by1 f (cb + pc + 1)) 2 ml = loN (by1 f (cb + pc + 1)) (lpO op) ml from by rw [show lpO op = 2 from by unfold lpO; rw [if_pos (by omega)]]), rfl⟩)
    · have c_110 : ¬ ((nI (op - 21)) = 1) := of_decide_eq_false c_110
      have n_110 : ¬ (op - 21 = 1) := fun h9 => c_110 ((eq_nI (p := op - 21) (n := 1) (by omega) (by decide)).mpr h9)
      refine ps_st (S' := (114, [(3, .int (nI (op - 21))), (0, .ref m0), (1, .int (nI pc))], [.int (nI (op - 21)), .int (nI (by1 f (cb + pc + 1))), .ref m0], M)) rfl rfl rfl ?_
      refine ps_st (S' := (115, [(3, .int (nI (op - 21))), (0, .ref m0), (1, .int (nI pc))], [.int 3, .int (nI (op - 21)), .int (nI (by1 f (cb + pc + 1))), .ref m0], M)) rfl rfl rfl ?_
      refine ps_if2 (S1 := (122, [(3, .int (nI (op - 21))), (0, .ref m0), (1, .int (nI pc))], [.int (nI (by1 f (cb + pc + 1))), .ref m0], M)) (S2 := (118, [], [.int (nI (by1 f (cb + pc + 1))), .ref m0], M)) rfl rfl rfl (fun c_115 => ?_) (fun c_115 => ?_)
      · have c_115 : ¬ (nI (op - 21)) = 3 := of_decide_eq_true c_115
        have n_115 : ¬ (op - 21 = 3) := fun h9 => c_115 ((eq_nI (p := op - 21) (n := 3) (by omega) (by decide)).mpr h9)
        refine ps_st (S' := (123, [], [.int 1, .int (nI (by1 f (cb + pc + 1))), .ref m0], M)) rfl rfl rfl ?_
        refine pl_call (a := [.ref m0, .int (nI (by1 f (cb + pc + 1))), .int 1]) (rest := []) rfl rfl rfl (rd_local (i := (by1 f (cb + pc + 1))) (k := 1) (ml := ml) hR hi79 (by omega) (by omega) (hml)) (fun v7 M8 q9 => ?_)
        obtain ⟨rfl, rfl⟩ := q9
        show pl _ _ _ (126, [], [.int (nI (loN (by1 f (cb + pc + 1)) 1 ml))], M) _
        have hlo_123 := lo_9 (i := (by1 f (cb + pc + 1))) (k := 1) (ml := ml)
        have hlb_123 := le1_lo (by1 f (cb + pc + 1)) 1 ml
        exact ps_reti rfl (⟨congrArg (fun x => some (Value.int (nI x))) (show loN (by1 f (cb + pc + 1)) 1 ml = loN (by1 f (cb + pc + 1)) (lpO op) ml from by rw [show lpO op = 1 from by unfold lpO; rw [if_neg (by omega)]]), rfl⟩)
      · have c_115 : ¬ (¬ (nI (op - 21)) = 3) := of_decide_eq_false c_115
        have n_115 : op - 21 = 3 := (eq_nI (p := op - 21) (n := 3) (by omega) (by decide)).mp (Decidable.not_not.mp c_115)
        refine ps_st (S' := (119, [], [.int 2, .int (nI (by1 f (cb + pc + 1))), .ref m0], M)) rfl rfl rfl ?_
        refine ps_st (S' := (123, [], [.int 2, .int (nI (by1 f (cb + pc + 1))), .ref m0], M)) rfl rfl rfl ?_
        refine pl_call (a := [.ref m0, .int (nI (by1 f (cb + pc + 1))), .int 2]) (rest := []) rfl rfl rfl (rd_local (i := (by1 f (cb + pc + 1))) (k := 2) (ml := ml) hR hi79 (by omega) (by omega) (hml)) (fun v10 M11 q12 => ?_)
        obtain ⟨rfl, rfl⟩ := q12
        show pl _ _ _ (126, [], [.int (nI (loN (by1 f (cb + pc + 1)) 2 ml))], M) _
        have hlo_123 := lo_9 (i := (by1 f (cb + pc + 1))) (k := 2) (ml := ml)
        have hlb_123 := le1_lo (by1 f (cb + pc + 1)) 2 ml
        exact ps_reti rfl (⟨congrArg (fun x => some (Value.int (nI x))) (show loN (by1 f (cb + pc + 1)) 2 ml = loN (by1 f (cb + pc + 1)) (lpO op) ml from by rw [show lpO op = 2 from by unfold lpO; rw [if_pos (by omega)]]), rfl⟩)
  · have c_67 : ¬ ((nI op) ≤ 25) := of_decide_eq_false c_67
    have n_67 : ¬ (op ≤ 25) := fun h9 => c_67 ((le_nI (p := op) (n := 25) (by omega) (by decide)).mpr h9)
    refine ps_st (S' := (71, [(0, .ref m0), (1, .int (nI pc)), (2, .int (nI op))], [.int (nI op)], M)) rfl rfl rfl ?_
    refine ps_st (S' := (73, [(0, .ref m0), (1, .int (nI pc)), (2, .int (nI op))], [.int 54, .int (nI op)], M)) rfl rfl rfl ?_
    refine ps_if2 (S1 := (127, [(0, .ref m0), (1, .int (nI pc)), (2, .int (nI op))], [], M)) (S2 := (76, [(0, .ref m0), (1, .int (nI pc)), (2, .int (nI op))], [], M)) rfl rfl rfl (fun c_73 => ?_) (fun c_73 => ?_)
    · exact absurd (of_decide_eq_true c_73) (show ¬ ((nI op) < 54) from fun h9 => absurd ((lt_nI (p := op) (n := 54) (by omega) (by decide)).mp h9) (by omega))
    refine ps_st (S' := (77, [(0, .ref m0), (1, .int (nI pc)), (2, .int (nI op))], [.int (nI op)], M)) rfl rfl rfl ?_
    refine ps_st (S' := (79, [(0, .ref m0), (1, .int (nI pc)), (2, .int (nI op))], [.int 58, .int (nI op)], M)) rfl rfl rfl ?_
    refine ps_if2 (S1 := (127, [(0, .ref m0), (1, .int (nI pc)), (2, .int (nI op))], [], M)) (S2 := (82, [(0, .ref m0), (1, .int (nI pc)), (2, .int (nI op))], [], M)) rfl rfl rfl (fun c_79 => ?_) (fun c_79 => ?_)
    · exact absurd (of_decide_eq_true c_79) (show ¬ (58 < (nI op)) from fun h9 => absurd ((lt_nI (p := 58) (n := op) (by decide) (by omega)).mp h9) (by omega))
    refine ps_st (S' := (83, [(0, .ref m0), (1, .int (nI pc)), (2, .int (nI op))], [.int (nI op)], M)) rfl rfl rfl ?_
    refine ps_st (S' := (85, [(0, .ref m0), (1, .int (nI pc)), (2, .int (nI op))], [.int 54, .int (nI op)], M)) rfl rfl rfl ?_
    refine ps_if2 (S1 := (95, [(0, .ref m0), (1, .int (nI pc)), (2, .int (nI op))], [], M)) (S2 := (88, [(0, .ref m0), (1, .int (nI pc)), (2, .int (nI op))], [], M)) rfl rfl rfl (fun c_85 => ?_) (fun c_85 => ?_)
    · exact absurd (of_decide_eq_true c_85) (show ¬ ((nI op) < 54) from fun h9 => absurd ((lt_nI (p := op) (n := 54) (by omega) (by decide)).mp h9) (by omega))
    refine ps_st (S' := (89, [(0, .ref m0), (1, .int (nI pc)), (2, .int (nI op))], [.int (nI op)], M)) rfl rfl rfl ?_
    refine ps_st (S' := (91, [(0, .ref m0), (1, .int (nI pc)), (2, .int (nI op))], [.int 54, .int (nI op)], M)) rfl rfl rfl ?_
    refine ps_st (S' := (92, [(0, .ref m0), (1, .int (nI pc)), (2, .int (nI op))], [.int ((nI op) - 54)], M)) rfl rfl rfl ?_
    rw [nI_sub1 (p := op) (k := 54) (x := 54) rfl (by omega) (by omega)]
    show pl _ _ _ (_, [(0, .ref m0), (1, .int (nI pc)), (2, .int (nI op))], [.int (nI (op - 54))], M) _
    refine ps_st (S' := (99, [(0, .ref m0), (1, .int (nI pc))], [.int (nI (op - 54))], M)) rfl rfl rfl ?_
    refine ps_st (S' := (100, [(3, .int (nI (op - 54))), (0, .ref m0), (1, .int (nI pc))], [], M)) rfl rfl rfl ?_
    refine ps_st (S' := (101, [(3, .int (nI (op - 54))), (0, .ref m0), (1, .int (nI pc))], [.ref m0], M)) rfl rfl rfl ?_
    refine ps_st (S' := (102, [(3, .int (nI (op - 54))), (0, .ref m0), (1, .int (nI pc))], [.ref m0, .ref m0], M)) rfl rfl rfl ?_
    refine ps_st (S' := (103, [(3, .int (nI (op - 54))), (0, .ref m0), (1, .int (nI pc))], [.int (nI pc), .ref m0, .ref m0], M)) rfl rfl rfl ?_
    refine ps_st (S' := (104, [(3, .int (nI (op - 54))), (0, .ref m0), (1, .int (nI pc))], [.int 1, .int (nI pc), .ref m0, .ref m0], M)) rfl rfl rfl ?_
    refine ps_st (S' := (105, [(3, .int (nI (op - 54))), (0, .ref m0), (1, .int (nI pc))], [.int ((nI pc) + 1), .ref m0, .ref m0], M)) rfl rfl rfl ?_
    rw [nI_add1 (p := pc) (k := 1) (x := 1) rfl (by omega)]
    show pl _ _ _ (_, [(3, .int (nI (op - 54))), (0, .ref m0), (1, .int (nI pc))], [.int (nI (pc + 1)), .ref m0, .ref m0], M) _
    refine pl_call (a := [.ref m0, .int (nI (pc + 1))]) (rest := [.ref m0]) rfl rfl rfl (rd_b1 (n := n) (f := f) (cb := cb) (p := (pc + 1)) hR hi77 hF (by omega)) (fun v13 M14 q15 => ?_)
    obtain ⟨rfl, rfl⟩ := q15
    show pl _ _ _ (108, [(3, .int (nI (op - 54))), (0, .ref m0), (1, .int (nI pc))], [.int (nI (by1 f (cb + (pc + 1)))), .ref m0], M) _
    show pl _ _ _ (_, [(3, .int (nI (op - 54))), (0, .ref m0), (1, .int (nI pc))], [.int (nI (by1 f (cb + pc + 1))), .ref m0], M) _
    have hb_105 := by1_lt f (cb + pc + 1)
    refine ps_st (S' := (109, [(3, .int (nI (op - 54))), (0, .ref m0), (1, .int (nI pc))], [.int (nI (op - 54)), .int (nI (by1 f (cb + pc + 1))), .ref m0], M)) rfl rfl rfl ?_
    refine ps_st (S' := (110, [(3, .int (nI (op - 54))), (0, .ref m0), (1, .int (nI pc))], [.int 1, .int (nI (op - 54)), .int (nI (by1 f (cb + pc + 1))), .ref m0], M)) rfl rfl rfl ?_
    refine ps_if2 (S1 := (118, [], [.int (nI (by1 f (cb + pc + 1))), .ref m0], M)) (S2 := (113, [(3, .int (nI (op - 54))), (0, .ref m0), (1, .int (nI pc))], [.int (nI (by1 f (cb + pc + 1))), .ref m0], M)) rfl rfl rfl (fun c_110 => ?_) (fun c_110 => ?_)
    · have c_110 : (nI (op - 54)) = 1 := of_decide_eq_true c_110
      have n_110 : op - 54 = 1 := (eq_nI (p := op - 54) (n := 1) (by omega) (by decide)).mp c_110
      refine ps_st (S' := (119, [], [.int 2, .int (nI (by1 f (cb + pc + 1))), .ref m0], M)) rfl rfl rfl ?_
      refine ps_st (S' := (123, [], [.int 2, .int (nI (by1 f (cb + pc + 1))), .ref m0], M)) rfl rfl rfl ?_
      refine pl_call (a := [.ref m0, .int (nI (by1 f (cb + pc + 1))), .int 2]) (rest := []) rfl rfl rfl (rd_local (i := (by1 f (cb + pc + 1))) (k := 2) (ml := ml) hR hi79 (by omega) (by omega) (hml)) (fun v16 M17 q18 => ?_)
      obtain ⟨rfl, rfl⟩ := q18
      show pl _ _ _ (126, [], [.int (nI (loN (by1 f (cb + pc + 1)) 2 ml))], M) _
      have hlo_123 := lo_9 (i := (by1 f (cb + pc + 1))) (k := 2) (ml := ml)
      have hlb_123 := le1_lo (by1 f (cb + pc + 1)) 2 ml
      exact ps_reti rfl (⟨congrArg (fun x => some (Value.int (nI x))) (show loN (by1 f (cb + pc + 1)) 2 ml = loN (by1 f (cb + pc + 1)) (lpO op) ml from by rw [show lpO op = 2 from by unfold lpO; rw [if_pos (by omega)]]), rfl⟩)
    · have c_110 : ¬ ((nI (op - 54)) = 1) := of_decide_eq_false c_110
      have n_110 : ¬ (op - 54 = 1) := fun h9 => c_110 ((eq_nI (p := op - 54) (n := 1) (by omega) (by decide)).mpr h9)
      refine ps_st (S' := (114, [(3, .int (nI (op - 54))), (0, .ref m0), (1, .int (nI pc))], [.int (nI (op - 54)), .int (nI (by1 f (cb + pc + 1))), .ref m0], M)) rfl rfl rfl ?_
      refine ps_st (S' := (115, [(3, .int (nI (op - 54))), (0, .ref m0), (1, .int (nI pc))], [.int 3, .int (nI (op - 54)), .int (nI (by1 f (cb + pc + 1))), .ref m0], M)) rfl rfl rfl ?_
      refine ps_if2 (S1 := (122, [(3, .int (nI (op - 54))), (0, .ref m0), (1, .int (nI pc))], [.int (nI (by1 f (cb + pc + 1))), .ref m0], M)) (S2 := (118, [], [.int (nI (by1 f (cb + pc + 1))), .ref m0], M)) rfl rfl rfl (fun c_115 => ?_) (fun c_115 => ?_)
      · have c_115 : ¬ (nI (op - 54)) = 3 := of_decide_eq_true c_115
        have n_115 : ¬ (op - 54 = 3) := fun h9 => c_115 ((eq_nI (p := op - 54) (n := 3) (by omega) (by decide)).mpr h9)
        refine ps_st (S' := (123, [], [.int 1, .int (nI (by1 f (cb + pc + 1))), .ref m0], M)) rfl rfl rfl ?_
        refine pl_call (a := [.ref m0, .int (nI (by1 f (cb + pc + 1))), .int 1]) (rest := []) rfl rfl rfl (rd_local (i := (by1 f (cb + pc + 1))) (k := 1) (ml := ml) hR hi79 (by omega) (by omega) (hml)) (fun v19 M20 q21 => ?_)
        obtain ⟨rfl, rfl⟩ := q21
        show pl _ _ _ (126, [], [.int (nI (loN (by1 f (cb + pc + 1)) 1 ml))], M) _
        have hlo_123 := lo_9 (i := (by1 f (cb + pc + 1))) (k := 1) (ml := ml)
        have hlb_123 := le1_lo (by1 f (cb + pc + 1)) 1 ml
        exact ps_reti rfl (⟨congrArg (fun x => some (Value.int (nI x))) (show loN (by1 f (cb + pc + 1)) 1 ml = loN (by1 f (cb + pc + 1)) (lpO op) ml from by rw [show lpO op = 1 from by unfold lpO; rw [if_neg (by omega)]]), rfl⟩)
      · have c_115 : ¬ (¬ (nI (op - 54)) = 3) := of_decide_eq_false c_115
        have n_115 : op - 54 = 3 := (eq_nI (p := op - 54) (n := 3) (by omega) (by decide)).mp (Decidable.not_not.mp c_115)
        refine ps_st (S' := (119, [], [.int 2, .int (nI (by1 f (cb + pc + 1))), .ref m0], M)) rfl rfl rfl ?_
        refine ps_st (S' := (123, [], [.int 2, .int (nI (by1 f (cb + pc + 1))), .ref m0], M)) rfl rfl rfl ?_
        refine pl_call (a := [.ref m0, .int (nI (by1 f (cb + pc + 1))), .int 2]) (rest := []) rfl rfl rfl (rd_local (i := (by1 f (cb + pc + 1))) (k := 2) (ml := ml) hR hi79 (by omega) (by omega) (hml)) (fun v22 M23 q24 => ?_)
        obtain ⟨rfl, rfl⟩ := q24
        show pl _ _ _ (126, [], [.int (nI (loN (by1 f (cb + pc + 1)) 2 ml))], M) _
        have hlo_123 := lo_9 (i := (by1 f (cb + pc + 1))) (k := 2) (ml := ml)
        have hlb_123 := le1_lo (by1 f (cb + pc + 1)) 2 ml
        exact ps_reti rfl (⟨congrArg (fun x => some (Value.int (nI x))) (show loN (by1 f (cb + pc + 1)) 2 ml = loN (by1 f (cb + pc + 1)) (lpO op) ml from by rw [show lpO op = 2 from by unfold lpO; rw [if_pos (by omega)]]), rfl⟩)
set_option maxHeartbeats 1000000 in
theorem rd_opS1 {g : xe_G} {m0 : Nat} {q : Nat → Nat} {z : Nat × Nat} {I : rI} {R : rR} {M : mi_H} {n : Nat} {f : Nat → Int32} {tx : List (List Nat)} {cN : Nat} {A : Nat → Nat} {N mj : Nat} {E : List (Nat × Nat)} {cb ml s9 pc : Nat} {op : Nat} (hR : RS g m0 q z I R M) (hi51 : I 51 = some 0) (hi52 : I 52 = some (nI N)) (hi53 : I 53 = some (nI mj)) (hi77 : I 77 = some (nI cb)) (hi79 : I 79 = some (nI ml)) (hi9 : I 9 = some (nI s9)) (hF : FK n f I R) (hY : SYT tx cN A I R) (hP : RPV f n E tx N I R) (hEP : EP f n E) (hN : N < 65536) (hmj : mj < 65536) (hml : ml < 65536) (hs9 : s9 < tx.length ∧ tx.getD s9 [] = ltx 14) (hCP : CP f n E) (hPF : PF f n E) (hin : cb + pc + 1 ≤ n) (ho : 26 ≤ op ∧ op ≤ 45) : pt (mT g) 228 [.ref m0, .int (nI pc), .int (nI op)] M (fun v M' => (v = some (.int (nI (loN ((op - 26) % 4) (lpO (21 + (op - 26) / 4)) ml))) ∧ M = M')) := by
  refine pt_in (b := mb_228 g) rfl (fun kf => ?_)
  show pl (mT g) kf (mb_228 g).2 (0, [(0, .ref m0), (1, .int (nI pc)), (2, .int (nI op))], [], M) _
  have hn := hF.1
  have htl := hY.1.2.2.1
  refine ps_st (S' := (1, [(0, .ref m0), (1, .int (nI pc)), (2, .int (nI op))], [.int (nI op)], M)) rfl rfl rfl ?_
  refine ps_st (S' := (4, [(0, .ref m0), (1, .int (nI pc)), (2, .int (nI op))], [.int 168, .int (nI op)], M)) rfl rfl rfl ?_
  refine ps_if2 (S1 := (21, [(0, .ref m0), (1, .int (nI pc)), (2, .int (nI op))], [], M)) (S2 := (7, [(0, .ref m0), (1, .int (nI pc)), (2, .int (nI op))], [], M)) rfl rfl rfl (fun c_4 => ?_) (fun c_4 => ?_)
  · exact absurd (of_decide_eq_true c_4) (show ¬ ((nI op) = 168) from fun h9 => absurd ((eq_nI (p := op) (n := 168) (by omega) (by decide)).mp h9) (by omega))
  refine ps_st (S' := (8, [(0, .ref m0), (1, .int (nI pc)), (2, .int (nI op))], [.int (nI op)], M)) rfl rfl rfl ?_
  refine ps_st (S' := (11, [(0, .ref m0), (1, .int (nI pc)), (2, .int (nI op))], [.int 169, .int (nI op)], M)) rfl rfl rfl ?_
  refine ps_if2 (S1 := (21, [(0, .ref m0), (1, .int (nI pc)), (2, .int (nI op))], [], M)) (S2 := (14, [(0, .ref m0), (1, .int (nI pc)), (2, .int (nI op))], [], M)) rfl rfl rfl (fun c_11 => ?_) (fun c_11 => ?_)
  · exact absurd (of_decide_eq_true c_11) (show ¬ ((nI op) = 169) from fun h9 => absurd ((eq_nI (p := op) (n := 169) (by omega) (by decide)).mp h9) (by omega))
  refine ps_st (S' := (15, [(0, .ref m0), (1, .int (nI pc)), (2, .int (nI op))], [.int (nI op)], M)) rfl rfl rfl ?_
  refine ps_st (S' := (18, [(0, .ref m0), (1, .int (nI pc)), (2, .int (nI op))], [.int 201, .int (nI op)], M)) rfl rfl rfl ?_
  refine ps_if2 (S1 := (58, [(0, .ref m0), (1, .int (nI pc)), (2, .int (nI op))], [], M)) (S2 := (21, [(0, .ref m0), (1, .int (nI pc)), (2, .int (nI op))], [], M)) rfl rfl rfl (fun c_18 => ?_) (fun c_18 => ?_)
  rotate_left
  · exact absurd (show ¬ ((nI op) = 201) from fun h9 => absurd ((eq_nI (p := op) (n := 201) (by omega) (by decide)).mp h9) (by omega)) (of_decide_eq_false c_18)
  refine ps_st (S' := (59, [(0, .ref m0), (1, .int (nI pc)), (2, .int (nI op))], [.int (nI op)], M)) rfl rfl rfl ?_
  refine ps_st (S' := (61, [(0, .ref m0), (1, .int (nI pc)), (2, .int (nI op))], [.int 21, .int (nI op)], M)) rfl rfl rfl ?_
  refine ps_if2 (S1 := (70, [(0, .ref m0), (1, .int (nI pc)), (2, .int (nI op))], [], M)) (S2 := (64, [(0, .ref m0), (1, .int (nI pc)), (2, .int (nI op))], [], M)) rfl rfl rfl (fun c_61 => ?_) (fun c_61 => ?_)
  · exact absurd (of_decide_eq_true c_61) (show ¬ ((nI op) < 21) from fun h9 => absurd ((lt_nI (p := op) (n := 21) (by omega) (by decide)).mp h9) (by omega))
  refine ps_st (S' := (65, [(0, .ref m0), (1, .int (nI pc)), (2, .int (nI op))], [.int (nI op)], M)) rfl rfl rfl ?_
  refine ps_st (S' := (67, [(0, .ref m0), (1, .int (nI pc)), (2, .int (nI op))], [.int 25, .int (nI op)], M)) rfl rfl rfl ?_
  refine ps_if2 (S1 := (82, [(0, .ref m0), (1, .int (nI pc)), (2, .int (nI op))], [], M)) (S2 := (70, [(0, .ref m0), (1, .int (nI pc)), (2, .int (nI op))], [], M)) rfl rfl rfl (fun c_67 => ?_) (fun c_67 => ?_)
  · exact absurd (of_decide_eq_true c_67) (show ¬ ((nI op) ≤ 25) from fun h9 => absurd ((le_nI (p := op) (n := 25) (by omega) (by decide)).mp h9) (by omega))
  refine ps_st (S' := (71, [(0, .ref m0), (1, .int (nI pc)), (2, .int (nI op))], [.int (nI op)], M)) rfl rfl rfl ?_
  refine ps_st (S' := (73, [(0, .ref m0), (1, .int (nI pc)), (2, .int (nI op))], [.int 54, .int (nI op)], M)) rfl rfl rfl ?_
  refine ps_if2 (S1 := (127, [(0, .ref m0), (1, .int (nI pc)), (2, .int (nI op))], [], M)) (S2 := (76, [(0, .ref m0), (1, .int (nI pc)), (2, .int (nI op))], [], M)) rfl rfl rfl (fun c_73 => ?_) (fun c_73 => ?_)
  rotate_left
  · exact absurd ((lt_nI (p := op) (n := 54) (by omega) (by decide)).mpr (by omega)) (of_decide_eq_false c_73)
  refine ps_st (S' := (128, [(0, .ref m0), (1, .int (nI pc)), (2, .int (nI op))], [.int (nI op)], M)) rfl rfl rfl ?_
  refine ps_st (S' := (130, [(0, .ref m0), (1, .int (nI pc)), (2, .int (nI op))], [.int 26, .int (nI op)], M)) rfl rfl rfl ?_
  refine ps_if2 (S1 := (139, [(0, .ref m0), (1, .int (nI pc)), (2, .int (nI op))], [], M)) (S2 := (133, [(0, .ref m0), (1, .int (nI pc)), (2, .int (nI op))], [], M)) rfl rfl rfl (fun c_130 => ?_) (fun c_130 => ?_)
  · exact absurd (of_decide_eq_true c_130) (show ¬ ((nI op) < 26) from fun h9 => absurd ((lt_nI (p := op) (n := 26) (by omega) (by decide)).mp h9) (by omega))
  refine ps_st (S' := (134, [(0, .ref m0), (1, .int (nI pc)), (2, .int (nI op))], [.int (nI op)], M)) rfl rfl rfl ?_
  refine ps_st (S' := (136, [(0, .ref m0), (1, .int (nI pc)), (2, .int (nI op))], [.int 45, .int (nI op)], M)) rfl rfl rfl ?_
  refine ps_if2 (S1 := (151, [(0, .ref m0), (2, .int (nI op))], [], M)) (S2 := (139, [(0, .ref m0), (1, .int (nI pc)), (2, .int (nI op))], [], M)) rfl rfl rfl (fun c_136 => ?_) (fun c_136 => ?_)
  rotate_left
  · exact absurd ((le_nI (p := op) (n := 45) (by omega) (by decide)).mpr (by omega)) (of_decide_eq_false c_136)
  refine ps_st (S' := (152, [(0, .ref m0), (2, .int (nI op))], [.int (nI op)], M)) rfl rfl rfl ?_
  refine ps_st (S' := (154, [(0, .ref m0), (2, .int (nI op))], [.int 59, .int (nI op)], M)) rfl rfl rfl ?_
  refine ps_if2 (S1 := (164, [(0, .ref m0), (2, .int (nI op))], [], M)) (S2 := (157, [(0, .ref m0), (2, .int (nI op))], [], M)) rfl rfl rfl (fun c_154 => ?_) (fun c_154 => ?_)
  rotate_left
  · exact absurd ((lt_nI (p := op) (n := 59) (by omega) (by decide)).mpr (by omega)) (of_decide_eq_false c_154)
  refine ps_st (S' := (165, [(0, .ref m0), (2, .int (nI op))], [.int (nI op)], M)) rfl rfl rfl ?_
  refine ps_st (S' := (167, [(0, .ref m0), (2, .int (nI op))], [.int 26, .int (nI op)], M)) rfl rfl rfl ?_
  refine ps_st (S' := (168, [(0, .ref m0)], [.int ((nI op) - 26)], M)) rfl rfl rfl ?_
  rw [nI_sub1 (p := op) (k := 26) (x := 26) rfl (by omega) (by omega)]
  show pl _ _ _ (_, [(0, .ref m0)], [.int (nI (op - 26))], M) _
  refine ps_st (S' := (169, [(3, .int (nI (op - 26))), (0, .ref m0)], [], M)) rfl rfl rfl ?_
  refine ps_st (S' := (170, [(3, .int (nI (op - 26))), (0, .ref m0)], [.ref m0], M)) rfl rfl rfl ?_
  refine ps_st (S' := (171, [(3, .int (nI (op - 26))), (0, .ref m0)], [.int (nI (op - 26)), .ref m0], M)) rfl rfl rfl ?_
  refine ps_st (S' := (172, [(3, .int (nI (op - 26))), (0, .ref m0)], [.int 4, .int (nI (op - 26)), .ref m0], M)) rfl rfl rfl ?_
  refine ps_st (S' := (173, [(3, .int (nI (op - 26))), (0, .ref m0)], [.int ((nI (op - 26)) - (nI (op - 26)) / 4 * 4), .ref m0], M)) rfl rfl rfl ?_
  rw [nI_rem (a := op - 26) (k := 4) (x := 4) rfl rfl (by decide) (by omega)]
  show pl _ _ _ (_, [(3, .int (nI (op - 26))), (0, .ref m0)], [.int (nI ((op - 26) % 4)), .ref m0], M) _
  refine ps_st (S' := (174, [(3, .int (nI (op - 26))), (0, .ref m0)], [.int (nI (op - 26)), .int (nI ((op - 26) % 4)), .ref m0], M)) rfl rfl rfl ?_
  refine ps_st (S' := (175, [(3, .int (nI (op - 26))), (0, .ref m0)], [.int 4, .int (nI (op - 26)), .int (nI ((op - 26) % 4)), .ref m0], M)) rfl rfl rfl ?_
  refine ps_st (S' := (176, [(3, .int (nI (op - 26))), (0, .ref m0)], [.int ((nI (op - 26)) / 4), .int (nI ((op - 26) % 4)), .ref m0], M)) rfl rfl rfl ?_
  rw [ndiv_nI (k := 4) rfl (by decide) (by omega)]
  show pl _ _ _ (_, [(3, .int (nI (op - 26))), (0, .ref m0)], [.int (nI ((op - 26) / 4)), .int (nI ((op - 26) % 4)), .ref m0], M) _
  refine ps_st (S' := (177, [(3, .int (nI (op - 26))), (0, .ref m0)], [.int 1, .int (nI ((op - 26) / 4)), .int (nI ((op - 26) % 4)), .ref m0], M)) rfl rfl rfl ?_
  refine ps_if2 (S1 := (187, [], [.int (nI ((op - 26) % 4)), .ref m0], M)) (S2 := (180, [(3, .int (nI (op - 26))), (0, .ref m0)], [.int (nI ((op - 26) % 4)), .ref m0], M)) rfl rfl rfl (fun c_177 => ?_) (fun c_177 => ?_)
  · have c_177 : (nI ((op - 26) / 4)) = 1 := of_decide_eq_true c_177
    have n_177 : (op - 26) / 4 = 1 := (eq_nI (p := (op - 26) / 4) (n := 1) (by omega) (by decide)).mp c_177
    refine ps_st (S' := (188, [], [.int 2, .int (nI ((op - 26) % 4)), .ref m0], M)) rfl rfl rfl ?_
    refine ps_st (S' := (192, [], [.int 2, .int (nI ((op - 26) % 4)), .ref m0], M)) rfl rfl rfl ?_
    refine pl_call (a := [.ref m0, .int (nI ((op - 26) % 4)), .int 2]) (rest := []) rfl rfl rfl (rd_local (i := ((op - 26) % 4)) (k := 2) (ml := ml) hR hi79 (by omega) (by omega) (hml)) (fun v1 M2 q3 => ?_)
    obtain ⟨rfl, rfl⟩ := q3
    show pl _ _ _ (195, [], [.int (nI (loN ((op - 26) % 4) 2 ml))], M) _
    have hlo_192 := lo_9 (i := ((op - 26) % 4)) (k := 2) (ml := ml)
    have hlb_192 := le1_lo ((op - 26) % 4) 2 ml
    exact ps_reti rfl (⟨congrArg (fun x => some (Value.int (nI x))) (show loN ((op - 26) % 4) 2 ml = loN ((op - 26) % 4) (lpO (21 + (op - 26) / 4)) ml from by rw [show lpO (21 + (op - 26) / 4) = 2 from by unfold lpO; rw [if_pos (by omega)]]), rfl⟩)
  · have c_177 : ¬ ((nI ((op - 26) / 4)) = 1) := of_decide_eq_false c_177
    have n_177 : ¬ ((op - 26) / 4 = 1) := fun h9 => c_177 ((eq_nI (p := (op - 26) / 4) (n := 1) (by omega) (by decide)).mpr h9)
    refine ps_st (S' := (181, [(3, .int (nI (op - 26))), (0, .ref m0)], [.int (nI (op - 26)), .int (nI ((op - 26) % 4)), .ref m0], M)) rfl rfl rfl ?_
    refine ps_st (S' := (182, [(3, .int (nI (op - 26))), (0, .ref m0)], [.int 4, .int (nI (op - 26)), .int (nI ((op - 26) % 4)), .ref m0], M)) rfl rfl rfl ?_
    refine ps_st (S' := (183, [(3, .int (nI (op - 26))), (0, .ref m0)], [.int ((nI (op - 26)) / 4), .int (nI ((op - 26) % 4)), .ref m0], M)) rfl rfl rfl ?_
    rw [ndiv_nI (k := 4) rfl (by decide) (by omega)]
    show pl _ _ _ (_, [(3, .int (nI (op - 26))), (0, .ref m0)], [.int (nI ((op - 26) / 4)), .int (nI ((op - 26) % 4)), .ref m0], M) _
    refine ps_st (S' := (184, [(3, .int (nI (op - 26))), (0, .ref m0)], [.int 3, .int (nI ((op - 26) / 4)), .int (nI ((op - 26) % 4)), .ref m0], M)) rfl rfl rfl ?_
    refine ps_if2 (S1 := (191, [(3, .int (nI (op - 26))), (0, .ref m0)], [.int (nI ((op - 26) % 4)), .ref m0], M)) (S2 := (187, [], [.int (nI ((op - 26) % 4)), .ref m0], M)) rfl rfl rfl (fun c_184 => ?_) (fun c_184 => ?_)
    · have c_184 : ¬ (nI ((op - 26) / 4)) = 3 := of_decide_eq_true c_184
      have n_184 : ¬ ((op - 26) / 4 = 3) := fun h9 => c_184 ((eq_nI (p := (op - 26) / 4) (n := 3) (by omega) (by decide)).mpr h9)
      refine ps_st (S' := (192, [], [.int 1, .int (nI ((op - 26) % 4)), .ref m0], M)) rfl rfl rfl ?_
      refine pl_call (a := [.ref m0, .int (nI ((op - 26) % 4)), .int 1]) (rest := []) rfl rfl rfl (rd_local (i := ((op - 26) % 4)) (k := 1) (ml := ml) hR hi79 (by omega) (by omega) (hml)) (fun v4 M5 q6 => ?_)
      obtain ⟨rfl, rfl⟩ := q6
      show pl _ _ _ (195, [], [.int (nI (loN ((op - 26) % 4) 1 ml))], M) _
      have hlo_192 := lo_9 (i := ((op - 26) % 4)) (k := 1) (ml := ml)
      have hlb_192 := le1_lo ((op - 26) % 4) 1 ml
      exact ps_reti rfl (⟨congrArg (fun x => some (Value.int (nI x))) (show loN ((op - 26) % 4) 1 ml = loN ((op - 26) % 4) (lpO (21 + (op - 26) / 4)) ml from by rw [show lpO (21 + (op - 26) / 4) = 1 from by unfold lpO; rw [if_neg (by omega)]]), rfl⟩)
    · have c_184 : ¬ (¬ (nI ((op - 26) / 4)) = 3) := of_decide_eq_false c_184
      have n_184 : (op - 26) / 4 = 3 := (eq_nI (p := (op - 26) / 4) (n := 3) (by omega) (by decide)).mp (Decidable.not_not.mp c_184)
      refine ps_st (S' := (188, [], [.int 2, .int (nI ((op - 26) % 4)), .ref m0], M)) rfl rfl rfl ?_
      refine ps_st (S' := (192, [], [.int 2, .int (nI ((op - 26) % 4)), .ref m0], M)) rfl rfl rfl ?_
      refine pl_call (a := [.ref m0, .int (nI ((op - 26) % 4)), .int 2]) (rest := []) rfl rfl rfl (rd_local (i := ((op - 26) % 4)) (k := 2) (ml := ml) hR hi79 (by omega) (by omega) (hml)) (fun v7 M8 q9 => ?_)
      obtain ⟨rfl, rfl⟩ := q9
      show pl _ _ _ (195, [], [.int (nI (loN ((op - 26) % 4) 2 ml))], M) _
      have hlo_192 := lo_9 (i := ((op - 26) % 4)) (k := 2) (ml := ml)
      have hlb_192 := le1_lo ((op - 26) % 4) 2 ml
      exact ps_reti rfl (⟨congrArg (fun x => some (Value.int (nI x))) (show loN ((op - 26) % 4) 2 ml = loN ((op - 26) % 4) (lpO (21 + (op - 26) / 4)) ml from by rw [show lpO (21 + (op - 26) / 4) = 2 from by unfold lpO; rw [if_pos (by omega)]]), rfl⟩)
set_option maxHeartbeats 1000000 in
theorem rd_opS2 {g : xe_G} {m0 : Nat} {q : Nat → Nat} {z : Nat × Nat} {I : rI} {R : rR} {M : mi_H} {n : Nat} {f : Nat → Int32} {tx : List (List Nat)} {cN : Nat} {A : Nat → Nat} {N mj : Nat} {E : List (Nat × Nat)} {cb ml s9 pc : Nat} {op : Nat} (hR : RS g m0 q z I R M) (hi51 : I 51 = some 0) (hi52 : I 52 = some (nI N)) (hi53 : I 53 = some (nI mj)) (hi77 : I 77 = some (nI cb)) (hi79 : I 79 = some (nI ml)) (hi9 : I 9 = some (nI s9)) (hF : FK n f I R) (hY : SYT tx cN A I R) (hP : RPV f n E tx N I R) (hEP : EP f n E) (hN : N < 65536) (hmj : mj < 65536) (hml : ml < 65536) (hs9 : s9 < tx.length ∧ tx.getD s9 [] = ltx 14) (hCP : CP f n E) (hPF : PF f n E) (hin : cb + pc + 1 ≤ n) (ho : 59 ≤ op ∧ op ≤ 78) : pt (mT g) 228 [.ref m0, .int (nI pc), .int (nI op)] M (fun v M' => (v = some (.int (nI (loN ((op - 59) % 4) (lpO (54 + (op - 59) / 4)) ml))) ∧ M = M')) := by
  refine pt_in (b := mb_228 g) rfl (fun kf => ?_)
  show pl (mT g) kf (mb_228 g).2 (0, [(0, .ref m0), (1, .int (nI pc)), (2, .int (nI op))], [], M) _
  have hn := hF.1
  have htl := hY.1.2.2.1
  refine ps_st (S' := (1, [(0, .ref m0), (1, .int (nI pc)), (2, .int (nI op))], [.int (nI op)], M)) rfl rfl rfl ?_
  refine ps_st (S' := (4, [(0, .ref m0), (1, .int (nI pc)), (2, .int (nI op))], [.int 168, .int (nI op)], M)) rfl rfl rfl ?_
  refine ps_if2 (S1 := (21, [(0, .ref m0), (1, .int (nI pc)), (2, .int (nI op))], [], M)) (S2 := (7, [(0, .ref m0), (1, .int (nI pc)), (2, .int (nI op))], [], M)) rfl rfl rfl (fun c_4 => ?_) (fun c_4 => ?_)
  · exact absurd (of_decide_eq_true c_4) (show ¬ ((nI op) = 168) from fun h9 => absurd ((eq_nI (p := op) (n := 168) (by omega) (by decide)).mp h9) (by omega))
  refine ps_st (S' := (8, [(0, .ref m0), (1, .int (nI pc)), (2, .int (nI op))], [.int (nI op)], M)) rfl rfl rfl ?_
  refine ps_st (S' := (11, [(0, .ref m0), (1, .int (nI pc)), (2, .int (nI op))], [.int 169, .int (nI op)], M)) rfl rfl rfl ?_
  refine ps_if2 (S1 := (21, [(0, .ref m0), (1, .int (nI pc)), (2, .int (nI op))], [], M)) (S2 := (14, [(0, .ref m0), (1, .int (nI pc)), (2, .int (nI op))], [], M)) rfl rfl rfl (fun c_11 => ?_) (fun c_11 => ?_)
  · exact absurd (of_decide_eq_true c_11) (show ¬ ((nI op) = 169) from fun h9 => absurd ((eq_nI (p := op) (n := 169) (by omega) (by decide)).mp h9) (by omega))
  refine ps_st (S' := (15, [(0, .ref m0), (1, .int (nI pc)), (2, .int (nI op))], [.int (nI op)], M)) rfl rfl rfl ?_
  refine ps_st (S' := (18, [(0, .ref m0), (1, .int (nI pc)), (2, .int (nI op))], [.int 201, .int (nI op)], M)) rfl rfl rfl ?_
  refine ps_if2 (S1 := (58, [(0, .ref m0), (1, .int (nI pc)), (2, .int (nI op))], [], M)) (S2 := (21, [(0, .ref m0), (1, .int (nI pc)), (2, .int (nI op))], [], M)) rfl rfl rfl (fun c_18 => ?_) (fun c_18 => ?_)
  rotate_left
  · exact absurd (show ¬ ((nI op) = 201) from fun h9 => absurd ((eq_nI (p := op) (n := 201) (by omega) (by decide)).mp h9) (by omega)) (of_decide_eq_false c_18)
  refine ps_st (S' := (59, [(0, .ref m0), (1, .int (nI pc)), (2, .int (nI op))], [.int (nI op)], M)) rfl rfl rfl ?_
  refine ps_st (S' := (61, [(0, .ref m0), (1, .int (nI pc)), (2, .int (nI op))], [.int 21, .int (nI op)], M)) rfl rfl rfl ?_
  refine ps_if2 (S1 := (70, [(0, .ref m0), (1, .int (nI pc)), (2, .int (nI op))], [], M)) (S2 := (64, [(0, .ref m0), (1, .int (nI pc)), (2, .int (nI op))], [], M)) rfl rfl rfl (fun c_61 => ?_) (fun c_61 => ?_)
  · exact absurd (of_decide_eq_true c_61) (show ¬ ((nI op) < 21) from fun h9 => absurd ((lt_nI (p := op) (n := 21) (by omega) (by decide)).mp h9) (by omega))
  refine ps_st (S' := (65, [(0, .ref m0), (1, .int (nI pc)), (2, .int (nI op))], [.int (nI op)], M)) rfl rfl rfl ?_
  refine ps_st (S' := (67, [(0, .ref m0), (1, .int (nI pc)), (2, .int (nI op))], [.int 25, .int (nI op)], M)) rfl rfl rfl ?_
  refine ps_if2 (S1 := (82, [(0, .ref m0), (1, .int (nI pc)), (2, .int (nI op))], [], M)) (S2 := (70, [(0, .ref m0), (1, .int (nI pc)), (2, .int (nI op))], [], M)) rfl rfl rfl (fun c_67 => ?_) (fun c_67 => ?_)
  · exact absurd (of_decide_eq_true c_67) (show ¬ ((nI op) ≤ 25) from fun h9 => absurd ((le_nI (p := op) (n := 25) (by omega) (by decide)).mp h9) (by omega))
  refine ps_st (S' := (71, [(0, .ref m0), (1, .int (nI pc)), (2, .int (nI op))], [.int (nI op)], M)) rfl rfl rfl ?_
  refine ps_st (S' := (73, [(0, .ref m0), (1, .int (nI pc)), (2, .int (nI op))], [.int 54, .int (nI op)], M)) rfl rfl rfl ?_
  refine ps_if2 (S1 := (127, [(0, .ref m0), (1, .int (nI pc)), (2, .int (nI op))], [], M)) (S2 := (76, [(0, .ref m0), (1, .int (nI pc)), (2, .int (nI op))], [], M)) rfl rfl rfl (fun c_73 => ?_) (fun c_73 => ?_)
  · exact absurd (of_decide_eq_true c_73) (show ¬ ((nI op) < 54) from fun h9 => absurd ((lt_nI (p := op) (n := 54) (by omega) (by decide)).mp h9) (by omega))
  refine ps_st (S' := (77, [(0, .ref m0), (1, .int (nI pc)), (2, .int (nI op))], [.int (nI op)], M)) rfl rfl rfl ?_
  refine ps_st (S' := (79, [(0, .ref m0), (1, .int (nI pc)), (2, .int (nI op))], [.int 58, .int (nI op)], M)) rfl rfl rfl ?_
  refine ps_if2 (S1 := (127, [(0, .ref m0), (1, .int (nI pc)), (2, .int (nI op))], [], M)) (S2 := (82, [(0, .ref m0), (1, .int (nI pc)), (2, .int (nI op))], [], M)) rfl rfl rfl (fun c_79 => ?_) (fun c_79 => ?_)
  rotate_left
  · exact absurd ((lt_nI (p := 58) (n := op) (by decide) (by omega)).mpr (by omega)) (of_decide_eq_false c_79)
  refine ps_st (S' := (128, [(0, .ref m0), (1, .int (nI pc)), (2, .int (nI op))], [.int (nI op)], M)) rfl rfl rfl ?_
  refine ps_st (S' := (130, [(0, .ref m0), (1, .int (nI pc)), (2, .int (nI op))], [.int 26, .int (nI op)], M)) rfl rfl rfl ?_
  refine ps_if2 (S1 := (139, [(0, .ref m0), (1, .int (nI pc)), (2, .int (nI op))], [], M)) (S2 := (133, [(0, .ref m0), (1, .int (nI pc)), (2, .int (nI op))], [], M)) rfl rfl rfl (fun c_130 => ?_) (fun c_130 => ?_)
  · exact absurd (of_decide_eq_true c_130) (show ¬ ((nI op) < 26) from fun h9 => absurd ((lt_nI (p := op) (n := 26) (by omega) (by decide)).mp h9) (by omega))
  refine ps_st (S' := (134, [(0, .ref m0), (1, .int (nI pc)), (2, .int (nI op))], [.int (nI op)], M)) rfl rfl rfl ?_
  refine ps_st (S' := (136, [(0, .ref m0), (1, .int (nI pc)), (2, .int (nI op))], [.int 45, .int (nI op)], M)) rfl rfl rfl ?_
  refine ps_if2 (S1 := (151, [(0, .ref m0), (2, .int (nI op))], [], M)) (S2 := (139, [(0, .ref m0), (1, .int (nI pc)), (2, .int (nI op))], [], M)) rfl rfl rfl (fun c_136 => ?_) (fun c_136 => ?_)
  · exact absurd (of_decide_eq_true c_136) (show ¬ ((nI op) ≤ 45) from fun h9 => absurd ((le_nI (p := op) (n := 45) (by omega) (by decide)).mp h9) (by omega))
  refine ps_st (S' := (140, [(0, .ref m0), (1, .int (nI pc)), (2, .int (nI op))], [.int (nI op)], M)) rfl rfl rfl ?_
  refine ps_st (S' := (142, [(0, .ref m0), (1, .int (nI pc)), (2, .int (nI op))], [.int 59, .int (nI op)], M)) rfl rfl rfl ?_
  refine ps_if2 (S1 := (196, [(0, .ref m0), (1, .int (nI pc)), (2, .int (nI op))], [], M)) (S2 := (145, [(0, .ref m0), (1, .int (nI pc)), (2, .int (nI op))], [], M)) rfl rfl rfl (fun c_142 => ?_) (fun c_142 => ?_)
  · exact absurd (of_decide_eq_true c_142) (show ¬ ((nI op) < 59) from fun h9 => absurd ((lt_nI (p := op) (n := 59) (by omega) (by decide)).mp h9) (by omega))
  refine ps_st (S' := (146, [(0, .ref m0), (1, .int (nI pc)), (2, .int (nI op))], [.int (nI op)], M)) rfl rfl rfl ?_
  refine ps_st (S' := (148, [(0, .ref m0), (1, .int (nI pc)), (2, .int (nI op))], [.int 78, .int (nI op)], M)) rfl rfl rfl ?_
  refine ps_if2 (S1 := (196, [(0, .ref m0), (1, .int (nI pc)), (2, .int (nI op))], [], M)) (S2 := (151, [(0, .ref m0), (2, .int (nI op))], [], M)) rfl rfl rfl (fun c_148 => ?_) (fun c_148 => ?_)
  · exact absurd (of_decide_eq_true c_148) (show ¬ (78 < (nI op)) from fun h9 => absurd ((lt_nI (p := 78) (n := op) (by decide) (by omega)).mp h9) (by omega))
  refine ps_st (S' := (152, [(0, .ref m0), (2, .int (nI op))], [.int (nI op)], M)) rfl rfl rfl ?_
  refine ps_st (S' := (154, [(0, .ref m0), (2, .int (nI op))], [.int 59, .int (nI op)], M)) rfl rfl rfl ?_
  refine ps_if2 (S1 := (164, [(0, .ref m0), (2, .int (nI op))], [], M)) (S2 := (157, [(0, .ref m0), (2, .int (nI op))], [], M)) rfl rfl rfl (fun c_154 => ?_) (fun c_154 => ?_)
  · exact absurd (of_decide_eq_true c_154) (show ¬ ((nI op) < 59) from fun h9 => absurd ((lt_nI (p := op) (n := 59) (by omega) (by decide)).mp h9) (by omega))
  refine ps_st (S' := (158, [(0, .ref m0), (2, .int (nI op))], [.int (nI op)], M)) rfl rfl rfl ?_
  refine ps_st (S' := (160, [(0, .ref m0), (2, .int (nI op))], [.int 59, .int (nI op)], M)) rfl rfl rfl ?_
  refine ps_st (S' := (161, [(0, .ref m0), (2, .int (nI op))], [.int ((nI op) - 59)], M)) rfl rfl rfl ?_
  rw [nI_sub1 (p := op) (k := 59) (x := 59) rfl (by omega) (by omega)]
  show pl _ _ _ (_, [(0, .ref m0), (2, .int (nI op))], [.int (nI (op - 59))], M) _
  refine ps_st (S' := (168, [(0, .ref m0)], [.int (nI (op - 59))], M)) rfl rfl rfl ?_
  refine ps_st (S' := (169, [(3, .int (nI (op - 59))), (0, .ref m0)], [], M)) rfl rfl rfl ?_
  refine ps_st (S' := (170, [(3, .int (nI (op - 59))), (0, .ref m0)], [.ref m0], M)) rfl rfl rfl ?_
  refine ps_st (S' := (171, [(3, .int (nI (op - 59))), (0, .ref m0)], [.int (nI (op - 59)), .ref m0], M)) rfl rfl rfl ?_
  refine ps_st (S' := (172, [(3, .int (nI (op - 59))), (0, .ref m0)], [.int 4, .int (nI (op - 59)), .ref m0], M)) rfl rfl rfl ?_
  refine ps_st (S' := (173, [(3, .int (nI (op - 59))), (0, .ref m0)], [.int ((nI (op - 59)) - (nI (op - 59)) / 4 * 4), .ref m0], M)) rfl rfl rfl ?_
  rw [nI_rem (a := op - 59) (k := 4) (x := 4) rfl rfl (by decide) (by omega)]
  show pl _ _ _ (_, [(3, .int (nI (op - 59))), (0, .ref m0)], [.int (nI ((op - 59) % 4)), .ref m0], M) _
  refine ps_st (S' := (174, [(3, .int (nI (op - 59))), (0, .ref m0)], [.int (nI (op - 59)), .int (nI ((op - 59) % 4)), .ref m0], M)) rfl rfl rfl ?_
  refine ps_st (S' := (175, [(3, .int (nI (op - 59))), (0, .ref m0)], [.int 4, .int (nI (op - 59)), .int (nI ((op - 59) % 4)), .ref m0], M)) rfl rfl rfl ?_
  refine ps_st (S' := (176, [(3, .int (nI (op - 59))), (0, .ref m0)], [.int ((nI (op - 59)) / 4), .int (nI ((op - 59) % 4)), .ref m0], M)) rfl rfl rfl ?_
  rw [ndiv_nI (k := 4) rfl (by decide) (by omega)]
  show pl _ _ _ (_, [(3, .int (nI (op - 59))), (0, .ref m0)], [.int (nI ((op - 59) / 4)), .int (nI ((op - 59) % 4)), .ref m0], M) _
  refine ps_st (S' := (177, [(3, .int (nI (op - 59))), (0, .ref m0)], [.int 1, .int (nI ((op - 59) / 4)), .int (nI ((op - 59) % 4)), .ref m0], M)) rfl rfl rfl ?_
  refine ps_if2 (S1 := (187, [], [.int (nI ((op - 59) % 4)), .ref m0], M)) (S2 := (180, [(3, .int (nI (op - 59))), (0, .ref m0)], [.int (nI ((op - 59) % 4)), .ref m0], M)) rfl rfl rfl (fun c_177 => ?_) (fun c_177 => ?_)
  · have c_177 : (nI ((op - 59) / 4)) = 1 := of_decide_eq_true c_177
    have n_177 : (op - 59) / 4 = 1 := (eq_nI (p := (op - 59) / 4) (n := 1) (by omega) (by decide)).mp c_177
    refine ps_st (S' := (188, [], [.int 2, .int (nI ((op - 59) % 4)), .ref m0], M)) rfl rfl rfl ?_
    refine ps_st (S' := (192, [], [.int 2, .int (nI ((op - 59) % 4)), .ref m0], M)) rfl rfl rfl ?_
    refine pl_call (a := [.ref m0, .int (nI ((op - 59) % 4)), .int 2]) (rest := []) rfl rfl rfl (rd_local (i := ((op - 59) % 4)) (k := 2) (ml := ml) hR hi79 (by omega) (by omega) (hml)) (fun v1 M2 q3 => ?_)
    obtain ⟨rfl, rfl⟩ := q3
    show pl _ _ _ (195, [], [.int (nI (loN ((op - 59) % 4) 2 ml))], M) _
    have hlo_192 := lo_9 (i := ((op - 59) % 4)) (k := 2) (ml := ml)
    have hlb_192 := le1_lo ((op - 59) % 4) 2 ml
    exact ps_reti rfl (⟨congrArg (fun x => some (Value.int (nI x))) (show loN ((op - 59) % 4) 2 ml = loN ((op - 59) % 4) (lpO (54 + (op - 59) / 4)) ml from by rw [show lpO (54 + (op - 59) / 4) = 2 from by unfold lpO; rw [if_pos (by omega)]]), rfl⟩)
  · have c_177 : ¬ ((nI ((op - 59) / 4)) = 1) := of_decide_eq_false c_177
    have n_177 : ¬ ((op - 59) / 4 = 1) := fun h9 => c_177 ((eq_nI (p := (op - 59) / 4) (n := 1) (by omega) (by decide)).mpr h9)
    refine ps_st (S' := (181, [(3, .int (nI (op - 59))), (0, .ref m0)], [.int (nI (op - 59)), .int (nI ((op - 59) % 4)), .ref m0], M)) rfl rfl rfl ?_
    refine ps_st (S' := (182, [(3, .int (nI (op - 59))), (0, .ref m0)], [.int 4, .int (nI (op - 59)), .int (nI ((op - 59) % 4)), .ref m0], M)) rfl rfl rfl ?_
    refine ps_st (S' := (183, [(3, .int (nI (op - 59))), (0, .ref m0)], [.int ((nI (op - 59)) / 4), .int (nI ((op - 59) % 4)), .ref m0], M)) rfl rfl rfl ?_
    rw [ndiv_nI (k := 4) rfl (by decide) (by omega)]
    show pl _ _ _ (_, [(3, .int (nI (op - 59))), (0, .ref m0)], [.int (nI ((op - 59) / 4)), .int (nI ((op - 59) % 4)), .ref m0], M) _
    refine ps_st (S' := (184, [(3, .int (nI (op - 59))), (0, .ref m0)], [.int 3, .int (nI ((op - 59) / 4)), .int (nI ((op - 59) % 4)), .ref m0], M)) rfl rfl rfl ?_
    refine ps_if2 (S1 := (191, [(3, .int (nI (op - 59))), (0, .ref m0)], [.int (nI ((op - 59) % 4)), .ref m0], M)) (S2 := (187, [], [.int (nI ((op - 59) % 4)), .ref m0], M)) rfl rfl rfl (fun c_184 => ?_) (fun c_184 => ?_)
    · have c_184 : ¬ (nI ((op - 59) / 4)) = 3 := of_decide_eq_true c_184
      have n_184 : ¬ ((op - 59) / 4 = 3) := fun h9 => c_184 ((eq_nI (p := (op - 59) / 4) (n := 3) (by omega) (by decide)).mpr h9)
      refine ps_st (S' := (192, [], [.int 1, .int (nI ((op - 59) % 4)), .ref m0], M)) rfl rfl rfl ?_
      refine pl_call (a := [.ref m0, .int (nI ((op - 59) % 4)), .int 1]) (rest := []) rfl rfl rfl (rd_local (i := ((op - 59) % 4)) (k := 1) (ml := ml) hR hi79 (by omega) (by omega) (hml)) (fun v4 M5 q6 => ?_)
      obtain ⟨rfl, rfl⟩ := q6
      show pl _ _ _ (195, [], [.int (nI (loN ((op - 59) % 4) 1 ml))], M) _
      have hlo_192 := lo_9 (i := ((op - 59) % 4)) (k := 1) (ml := ml)
      have hlb_192 := le1_lo ((op - 59) % 4) 1 ml
      exact ps_reti rfl (⟨congrArg (fun x => some (Value.int (nI x))) (show loN ((op - 59) % 4) 1 ml = loN ((op - 59) % 4) (lpO (54 + (op - 59) / 4)) ml from by rw [show lpO (54 + (op - 59) / 4) = 1 from by unfold lpO; rw [if_neg (by omega)]]), rfl⟩)
    · have c_184 : ¬ (¬ (nI ((op - 59) / 4)) = 3) := of_decide_eq_false c_184
      have n_184 : (op - 59) / 4 = 3 := (eq_nI (p := (op - 59) / 4) (n := 3) (by omega) (by decide)).mp (Decidable.not_not.mp c_184)
      refine ps_st (S' := (188, [], [.int 2, .int (nI ((op - 59) % 4)), .ref m0], M)) rfl rfl rfl ?_
      refine ps_st (S' := (192, [], [.int 2, .int (nI ((op - 59) % 4)), .ref m0], M)) rfl rfl rfl ?_
      refine pl_call (a := [.ref m0, .int (nI ((op - 59) % 4)), .int 2]) (rest := []) rfl rfl rfl (rd_local (i := ((op - 59) % 4)) (k := 2) (ml := ml) hR hi79 (by omega) (by omega) (hml)) (fun v7 M8 q9 => ?_)
      obtain ⟨rfl, rfl⟩ := q9
      show pl _ _ _ (195, [], [.int (nI (loN ((op - 59) % 4) 2 ml))], M) _
      have hlo_192 := lo_9 (i := ((op - 59) % 4)) (k := 2) (ml := ml)
      have hlb_192 := le1_lo ((op - 59) % 4) 2 ml
      exact ps_reti rfl (⟨congrArg (fun x => some (Value.int (nI x))) (show loN ((op - 59) % 4) 2 ml = loN ((op - 59) % 4) (lpO (54 + (op - 59) / 4)) ml from by rw [show lpO (54 + (op - 59) / 4) = 2 from by unfold lpO; rw [if_pos (by omega)]]), rfl⟩)
set_option maxHeartbeats 1000000 in
theorem rd_op132 {g : xe_G} {m0 : Nat} {q : Nat → Nat} {z : Nat × Nat} {I : rI} {R : rR} {M : mi_H} {n : Nat} {f : Nat → Int32} {tx : List (List Nat)} {cN : Nat} {A : Nat → Nat} {N mj : Nat} {E : List (Nat × Nat)} {cb ml s9 pc : Nat} (hR : RS g m0 q z I R M) (hi51 : I 51 = some 0) (hi52 : I 52 = some (nI N)) (hi53 : I 53 = some (nI mj)) (hi77 : I 77 = some (nI cb)) (hi79 : I 79 = some (nI ml)) (hi9 : I 9 = some (nI s9)) (hF : FK n f I R) (hY : SYT tx cN A I R) (hP : RPV f n E tx N I R) (hEP : EP f n E) (hN : N < 65536) (hmj : mj < 65536) (hml : ml < 65536) (hs9 : s9 < tx.length ∧ tx.getD s9 [] = ltx 14) (hCP : CP f n E) (hPF : PF f n E) (hin : cb + pc + 3 ≤ n) : pt (mT g) 228 [.ref m0, .int (nI pc), .int 132] M (fun v M' => (v = some (.int (nI (loN (by1 f (cb + pc + 1)) 1 ml))) ∧ M = M')) := by
  refine pt_in (b := mb_228 g) rfl (fun kf => ?_)
  show pl (mT g) kf (mb_228 g).2 (0, [(0, .ref m0), (1, .int (nI pc)), (2, .int 132)], [], M) _
  have hn := hF.1
  have htl := hY.1.2.2.1
  refine ps_st (S' := (1, [(0, .ref m0), (1, .int (nI pc)), (2, .int 132)], [.int 132], M)) rfl rfl rfl ?_
  refine ps_st (S' := (4, [(0, .ref m0), (1, .int (nI pc)), (2, .int 132)], [.int 168, .int 132], M)) rfl rfl rfl ?_
  refine ps_if2 (S1 := (21, [(0, .ref m0), (1, .int (nI pc)), (2, .int 132)], [], M)) (S2 := (7, [(0, .ref m0), (1, .int (nI pc)), (2, .int 132)], [], M)) rfl rfl rfl (fun c_4 => ?_) (fun c_4 => ?_)
  · exact absurd (of_decide_eq_true c_4) (by decide)
  refine ps_st (S' := (8, [(0, .ref m0), (1, .int (nI pc)), (2, .int 132)], [.int 132], M)) rfl rfl rfl ?_
  refine ps_st (S' := (11, [(0, .ref m0), (1, .int (nI pc)), (2, .int 132)], [.int 169, .int 132], M)) rfl rfl rfl ?_
  refine ps_if2 (S1 := (21, [(0, .ref m0), (1, .int (nI pc)), (2, .int 132)], [], M)) (S2 := (14, [(0, .ref m0), (1, .int (nI pc)), (2, .int 132)], [], M)) rfl rfl rfl (fun c_11 => ?_) (fun c_11 => ?_)
  · exact absurd (of_decide_eq_true c_11) (by decide)
  refine ps_st (S' := (15, [(0, .ref m0), (1, .int (nI pc)), (2, .int 132)], [.int 132], M)) rfl rfl rfl ?_
  refine ps_st (S' := (18, [(0, .ref m0), (1, .int (nI pc)), (2, .int 132)], [.int 201, .int 132], M)) rfl rfl rfl ?_
  refine ps_if2 (S1 := (58, [(0, .ref m0), (1, .int (nI pc)), (2, .int 132)], [], M)) (S2 := (21, [(0, .ref m0), (1, .int (nI pc)), (2, .int 132)], [], M)) rfl rfl rfl (fun c_18 => ?_) (fun c_18 => ?_)
  rotate_left
  · exact absurd (by decide) (of_decide_eq_false c_18)
  refine ps_st (S' := (59, [(0, .ref m0), (1, .int (nI pc)), (2, .int 132)], [.int 132], M)) rfl rfl rfl ?_
  refine ps_st (S' := (61, [(0, .ref m0), (1, .int (nI pc)), (2, .int 132)], [.int 21, .int 132], M)) rfl rfl rfl ?_
  refine ps_if2 (S1 := (70, [(0, .ref m0), (1, .int (nI pc)), (2, .int 132)], [], M)) (S2 := (64, [(0, .ref m0), (1, .int (nI pc)), (2, .int 132)], [], M)) rfl rfl rfl (fun c_61 => ?_) (fun c_61 => ?_)
  · exact absurd (of_decide_eq_true c_61) (by decide)
  refine ps_st (S' := (65, [(0, .ref m0), (1, .int (nI pc)), (2, .int 132)], [.int 132], M)) rfl rfl rfl ?_
  refine ps_st (S' := (67, [(0, .ref m0), (1, .int (nI pc)), (2, .int 132)], [.int 25, .int 132], M)) rfl rfl rfl ?_
  refine ps_if2 (S1 := (82, [(0, .ref m0), (1, .int (nI pc)), (2, .int 132)], [], M)) (S2 := (70, [(0, .ref m0), (1, .int (nI pc)), (2, .int 132)], [], M)) rfl rfl rfl (fun c_67 => ?_) (fun c_67 => ?_)
  · exact absurd (of_decide_eq_true c_67) (by decide)
  refine ps_st (S' := (71, [(0, .ref m0), (1, .int (nI pc)), (2, .int 132)], [.int 132], M)) rfl rfl rfl ?_
  refine ps_st (S' := (73, [(0, .ref m0), (1, .int (nI pc)), (2, .int 132)], [.int 54, .int 132], M)) rfl rfl rfl ?_
  refine ps_if2 (S1 := (127, [(0, .ref m0), (1, .int (nI pc)), (2, .int 132)], [], M)) (S2 := (76, [(0, .ref m0), (1, .int (nI pc)), (2, .int 132)], [], M)) rfl rfl rfl (fun c_73 => ?_) (fun c_73 => ?_)
  · exact absurd (of_decide_eq_true c_73) (by decide)
  refine ps_st (S' := (77, [(0, .ref m0), (1, .int (nI pc)), (2, .int 132)], [.int 132], M)) rfl rfl rfl ?_
  refine ps_st (S' := (79, [(0, .ref m0), (1, .int (nI pc)), (2, .int 132)], [.int 58, .int 132], M)) rfl rfl rfl ?_
  refine ps_if2 (S1 := (127, [(0, .ref m0), (1, .int (nI pc)), (2, .int 132)], [], M)) (S2 := (82, [(0, .ref m0), (1, .int (nI pc)), (2, .int 132)], [], M)) rfl rfl rfl (fun c_79 => ?_) (fun c_79 => ?_)
  rotate_left
  · exact absurd (by decide) (of_decide_eq_false c_79)
  refine ps_st (S' := (128, [(0, .ref m0), (1, .int (nI pc)), (2, .int 132)], [.int 132], M)) rfl rfl rfl ?_
  refine ps_st (S' := (130, [(0, .ref m0), (1, .int (nI pc)), (2, .int 132)], [.int 26, .int 132], M)) rfl rfl rfl ?_
  refine ps_if2 (S1 := (139, [(0, .ref m0), (1, .int (nI pc)), (2, .int 132)], [], M)) (S2 := (133, [(0, .ref m0), (1, .int (nI pc)), (2, .int 132)], [], M)) rfl rfl rfl (fun c_130 => ?_) (fun c_130 => ?_)
  · exact absurd (of_decide_eq_true c_130) (by decide)
  refine ps_st (S' := (134, [(0, .ref m0), (1, .int (nI pc)), (2, .int 132)], [.int 132], M)) rfl rfl rfl ?_
  refine ps_st (S' := (136, [(0, .ref m0), (1, .int (nI pc)), (2, .int 132)], [.int 45, .int 132], M)) rfl rfl rfl ?_
  refine ps_if2 (S1 := (151, [(0, .ref m0), (2, .int 132)], [], M)) (S2 := (139, [(0, .ref m0), (1, .int (nI pc)), (2, .int 132)], [], M)) rfl rfl rfl (fun c_136 => ?_) (fun c_136 => ?_)
  · exact absurd (of_decide_eq_true c_136) (by decide)
  refine ps_st (S' := (140, [(0, .ref m0), (1, .int (nI pc)), (2, .int 132)], [.int 132], M)) rfl rfl rfl ?_
  refine ps_st (S' := (142, [(0, .ref m0), (1, .int (nI pc)), (2, .int 132)], [.int 59, .int 132], M)) rfl rfl rfl ?_
  refine ps_if2 (S1 := (196, [(0, .ref m0), (1, .int (nI pc)), (2, .int 132)], [], M)) (S2 := (145, [(0, .ref m0), (1, .int (nI pc)), (2, .int 132)], [], M)) rfl rfl rfl (fun c_142 => ?_) (fun c_142 => ?_)
  · exact absurd (of_decide_eq_true c_142) (by decide)
  refine ps_st (S' := (146, [(0, .ref m0), (1, .int (nI pc)), (2, .int 132)], [.int 132], M)) rfl rfl rfl ?_
  refine ps_st (S' := (148, [(0, .ref m0), (1, .int (nI pc)), (2, .int 132)], [.int 78, .int 132], M)) rfl rfl rfl ?_
  refine ps_if2 (S1 := (196, [(0, .ref m0), (1, .int (nI pc)), (2, .int 132)], [], M)) (S2 := (151, [(0, .ref m0), (2, .int 132)], [], M)) rfl rfl rfl (fun c_148 => ?_) (fun c_148 => ?_)
  rotate_left
  · exact absurd (by decide) (of_decide_eq_false c_148)
  refine ps_st (S' := (197, [(0, .ref m0), (1, .int (nI pc)), (2, .int 132)], [.int 132], M)) rfl rfl rfl ?_
  refine ps_st (S' := (200, [(0, .ref m0), (1, .int (nI pc)), (2, .int 132)], [.int 132, .int 132], M)) rfl rfl rfl ?_
  refine ps_if2 (S1 := (216, [(0, .ref m0), (1, .int (nI pc)), (2, .int 132)], [], M)) (S2 := (203, [(0, .ref m0), (1, .int (nI pc)), (2, .int 132)], [], M)) rfl rfl rfl (fun c_200 => ?_) (fun c_200 => ?_)
  · exact absurd (of_decide_eq_true c_200) (by decide)
  refine ps_st (S' := (204, [(0, .ref m0), (1, .int (nI pc)), (2, .int 132)], [.ref m0], M)) rfl rfl rfl ?_
  refine ps_st (S' := (205, [(0, .ref m0), (1, .int (nI pc)), (2, .int 132)], [.ref m0, .ref m0], M)) rfl rfl rfl ?_
  refine ps_st (S' := (206, [(0, .ref m0), (1, .int (nI pc)), (2, .int 132)], [.int (nI pc), .ref m0, .ref m0], M)) rfl rfl rfl ?_
  refine ps_st (S' := (207, [(0, .ref m0), (1, .int (nI pc)), (2, .int 132)], [.int 1, .int (nI pc), .ref m0, .ref m0], M)) rfl rfl rfl ?_
  refine ps_st (S' := (208, [(0, .ref m0), (1, .int (nI pc)), (2, .int 132)], [.int ((nI pc) + 1), .ref m0, .ref m0], M)) rfl rfl rfl ?_
  rw [nI_add1 (p := pc) (k := 1) (x := 1) rfl (by omega)]
  show pl _ _ _ (_, [(0, .ref m0), (1, .int (nI pc)), (2, .int 132)], [.int (nI (pc + 1)), .ref m0, .ref m0], M) _
  refine pl_call (a := [.ref m0, .int (nI (pc + 1))]) (rest := [.ref m0]) rfl rfl rfl (rd_b1 (n := n) (f := f) (cb := cb) (p := (pc + 1)) hR hi77 hF (by omega)) (fun v1 M2 q3 => ?_)
  obtain ⟨rfl, rfl⟩ := q3
  show pl _ _ _ (211, [(0, .ref m0), (1, .int (nI pc)), (2, .int 132)], [.int (nI (by1 f (cb + (pc + 1)))), .ref m0], M) _
  show pl _ _ _ (_, [(0, .ref m0), (1, .int (nI pc)), (2, .int 132)], [.int (nI (by1 f (cb + pc + 1))), .ref m0], M) _
  have hb_208 := by1_lt f (cb + pc + 1)
  refine ps_st (S' := (212, [(0, .ref m0), (1, .int (nI pc)), (2, .int 132)], [.int 1, .int (nI (by1 f (cb + pc + 1))), .ref m0], M)) rfl rfl rfl ?_
  refine pl_call (a := [.ref m0, .int (nI (by1 f (cb + pc + 1))), .int 1]) (rest := []) rfl rfl rfl (rd_local (i := (by1 f (cb + pc + 1))) (k := 1) (ml := ml) hR hi79 (by omega) (by omega) (hml)) (fun v4 M5 q6 => ?_)
  obtain ⟨rfl, rfl⟩ := q6
  show pl _ _ _ (215, [(0, .ref m0), (1, .int (nI pc)), (2, .int 132)], [.int (nI (loN (by1 f (cb + pc + 1)) 1 ml))], M) _
  have hlo_212 := lo_9 (i := (by1 f (cb + pc + 1))) (k := 1) (ml := ml)
  have hlb_212 := le1_lo (by1 f (cb + pc + 1)) 1 ml
  exact ps_reti rfl (⟨congrArg (fun x => some (Value.int (nI x))) (show loN (by1 f (cb + pc + 1)) 1 ml = loN (by1 f (cb + pc + 1)) 1 ml from rfl), rfl⟩)
set_option maxHeartbeats 1000000 in
theorem rd_op196 {g : xe_G} {m0 : Nat} {q : Nat → Nat} {z : Nat × Nat} {I : rI} {R : rR} {M : mi_H} {n : Nat} {f : Nat → Int32} {tx : List (List Nat)} {cN : Nat} {A : Nat → Nat} {N mj : Nat} {E : List (Nat × Nat)} {cb ml s9 pc : Nat} (hR : RS g m0 q z I R M) (hi51 : I 51 = some 0) (hi52 : I 52 = some (nI N)) (hi53 : I 53 = some (nI mj)) (hi77 : I 77 = some (nI cb)) (hi79 : I 79 = some (nI ml)) (hi9 : I 9 = some (nI s9)) (hF : FK n f I R) (hY : SYT tx cN A I R) (hP : RPV f n E tx N I R) (hEP : EP f n E) (hN : N < 65536) (hmj : mj < 65536) (hml : ml < 65536) (hs9 : s9 < tx.length ∧ tx.getD s9 [] = ltx 14) (hCP : CP f n E) (hPF : PF f n E) (hin : cb + pc + 4 ≤ n) : pt (mT g) 228 [.ref m0, .int (nI pc), .int 196] M (fun v M' => (v = some (.int (nI (if by1 f (cb + pc + 1) = 169 ∧ 51 ≤ mj then 0 else loN (by2 f (cb + pc + 2)) (lpO (by1 f (cb + pc + 1))) ml))) ∧ M = M')) := by
  refine pt_in (b := mb_228 g) rfl (fun kf => ?_)
  show pl (mT g) kf (mb_228 g).2 (0, [(0, .ref m0), (1, .int (nI pc)), (2, .int 196)], [], M) _
  have hn := hF.1
  have htl := hY.1.2.2.1
  refine ps_st (S' := (1, [(0, .ref m0), (1, .int (nI pc)), (2, .int 196)], [.int 196], M)) rfl rfl rfl ?_
  refine ps_st (S' := (4, [(0, .ref m0), (1, .int (nI pc)), (2, .int 196)], [.int 168, .int 196], M)) rfl rfl rfl ?_
  refine ps_if2 (S1 := (21, [(0, .ref m0), (1, .int (nI pc)), (2, .int 196)], [], M)) (S2 := (7, [(0, .ref m0), (1, .int (nI pc)), (2, .int 196)], [], M)) rfl rfl rfl (fun c_4 => ?_) (fun c_4 => ?_)
  · exact absurd (of_decide_eq_true c_4) (by decide)
  refine ps_st (S' := (8, [(0, .ref m0), (1, .int (nI pc)), (2, .int 196)], [.int 196], M)) rfl rfl rfl ?_
  refine ps_st (S' := (11, [(0, .ref m0), (1, .int (nI pc)), (2, .int 196)], [.int 169, .int 196], M)) rfl rfl rfl ?_
  refine ps_if2 (S1 := (21, [(0, .ref m0), (1, .int (nI pc)), (2, .int 196)], [], M)) (S2 := (14, [(0, .ref m0), (1, .int (nI pc)), (2, .int 196)], [], M)) rfl rfl rfl (fun c_11 => ?_) (fun c_11 => ?_)
  · exact absurd (of_decide_eq_true c_11) (by decide)
  refine ps_st (S' := (15, [(0, .ref m0), (1, .int (nI pc)), (2, .int 196)], [.int 196], M)) rfl rfl rfl ?_
  refine ps_st (S' := (18, [(0, .ref m0), (1, .int (nI pc)), (2, .int 196)], [.int 201, .int 196], M)) rfl rfl rfl ?_
  refine ps_if2 (S1 := (58, [(0, .ref m0), (1, .int (nI pc)), (2, .int 196)], [], M)) (S2 := (21, [(0, .ref m0), (1, .int (nI pc)), (2, .int 196)], [], M)) rfl rfl rfl (fun c_18 => ?_) (fun c_18 => ?_)
  rotate_left
  · exact absurd (by decide) (of_decide_eq_false c_18)
  refine ps_st (S' := (59, [(0, .ref m0), (1, .int (nI pc)), (2, .int 196)], [.int 196], M)) rfl rfl rfl ?_
  refine ps_st (S' := (61, [(0, .ref m0), (1, .int (nI pc)), (2, .int 196)], [.int 21, .int 196], M)) rfl rfl rfl ?_
  refine ps_if2 (S1 := (70, [(0, .ref m0), (1, .int (nI pc)), (2, .int 196)], [], M)) (S2 := (64, [(0, .ref m0), (1, .int (nI pc)), (2, .int 196)], [], M)) rfl rfl rfl (fun c_61 => ?_) (fun c_61 => ?_)
  · exact absurd (of_decide_eq_true c_61) (by decide)
  refine ps_st (S' := (65, [(0, .ref m0), (1, .int (nI pc)), (2, .int 196)], [.int 196], M)) rfl rfl rfl ?_
  refine ps_st (S' := (67, [(0, .ref m0), (1, .int (nI pc)), (2, .int 196)], [.int 25, .int 196], M)) rfl rfl rfl ?_
  refine ps_if2 (S1 := (82, [(0, .ref m0), (1, .int (nI pc)), (2, .int 196)], [], M)) (S2 := (70, [(0, .ref m0), (1, .int (nI pc)), (2, .int 196)], [], M)) rfl rfl rfl (fun c_67 => ?_) (fun c_67 => ?_)
  · exact absurd (of_decide_eq_true c_67) (by decide)
  refine ps_st (S' := (71, [(0, .ref m0), (1, .int (nI pc)), (2, .int 196)], [.int 196], M)) rfl rfl rfl ?_
  refine ps_st (S' := (73, [(0, .ref m0), (1, .int (nI pc)), (2, .int 196)], [.int 54, .int 196], M)) rfl rfl rfl ?_
  refine ps_if2 (S1 := (127, [(0, .ref m0), (1, .int (nI pc)), (2, .int 196)], [], M)) (S2 := (76, [(0, .ref m0), (1, .int (nI pc)), (2, .int 196)], [], M)) rfl rfl rfl (fun c_73 => ?_) (fun c_73 => ?_)
  · exact absurd (of_decide_eq_true c_73) (by decide)
  refine ps_st (S' := (77, [(0, .ref m0), (1, .int (nI pc)), (2, .int 196)], [.int 196], M)) rfl rfl rfl ?_
  refine ps_st (S' := (79, [(0, .ref m0), (1, .int (nI pc)), (2, .int 196)], [.int 58, .int 196], M)) rfl rfl rfl ?_
  refine ps_if2 (S1 := (127, [(0, .ref m0), (1, .int (nI pc)), (2, .int 196)], [], M)) (S2 := (82, [(0, .ref m0), (1, .int (nI pc)), (2, .int 196)], [], M)) rfl rfl rfl (fun c_79 => ?_) (fun c_79 => ?_)
  rotate_left
  · exact absurd (by decide) (of_decide_eq_false c_79)
  refine ps_st (S' := (128, [(0, .ref m0), (1, .int (nI pc)), (2, .int 196)], [.int 196], M)) rfl rfl rfl ?_
  refine ps_st (S' := (130, [(0, .ref m0), (1, .int (nI pc)), (2, .int 196)], [.int 26, .int 196], M)) rfl rfl rfl ?_
  refine ps_if2 (S1 := (139, [(0, .ref m0), (1, .int (nI pc)), (2, .int 196)], [], M)) (S2 := (133, [(0, .ref m0), (1, .int (nI pc)), (2, .int 196)], [], M)) rfl rfl rfl (fun c_130 => ?_) (fun c_130 => ?_)
  · exact absurd (of_decide_eq_true c_130) (by decide)
  refine ps_st (S' := (134, [(0, .ref m0), (1, .int (nI pc)), (2, .int 196)], [.int 196], M)) rfl rfl rfl ?_
  refine ps_st (S' := (136, [(0, .ref m0), (1, .int (nI pc)), (2, .int 196)], [.int 45, .int 196], M)) rfl rfl rfl ?_
  refine ps_if2 (S1 := (151, [(0, .ref m0), (2, .int 196)], [], M)) (S2 := (139, [(0, .ref m0), (1, .int (nI pc)), (2, .int 196)], [], M)) rfl rfl rfl (fun c_136 => ?_) (fun c_136 => ?_)
  · exact absurd (of_decide_eq_true c_136) (by decide)
  refine ps_st (S' := (140, [(0, .ref m0), (1, .int (nI pc)), (2, .int 196)], [.int 196], M)) rfl rfl rfl ?_
  refine ps_st (S' := (142, [(0, .ref m0), (1, .int (nI pc)), (2, .int 196)], [.int 59, .int 196], M)) rfl rfl rfl ?_
  refine ps_if2 (S1 := (196, [(0, .ref m0), (1, .int (nI pc)), (2, .int 196)], [], M)) (S2 := (145, [(0, .ref m0), (1, .int (nI pc)), (2, .int 196)], [], M)) rfl rfl rfl (fun c_142 => ?_) (fun c_142 => ?_)
  · exact absurd (of_decide_eq_true c_142) (by decide)
  refine ps_st (S' := (146, [(0, .ref m0), (1, .int (nI pc)), (2, .int 196)], [.int 196], M)) rfl rfl rfl ?_
  refine ps_st (S' := (148, [(0, .ref m0), (1, .int (nI pc)), (2, .int 196)], [.int 78, .int 196], M)) rfl rfl rfl ?_
  refine ps_if2 (S1 := (196, [(0, .ref m0), (1, .int (nI pc)), (2, .int 196)], [], M)) (S2 := (151, [(0, .ref m0), (2, .int 196)], [], M)) rfl rfl rfl (fun c_148 => ?_) (fun c_148 => ?_)
  rotate_left
  · exact absurd (by decide) (of_decide_eq_false c_148)
  refine ps_st (S' := (197, [(0, .ref m0), (1, .int (nI pc)), (2, .int 196)], [.int 196], M)) rfl rfl rfl ?_
  refine ps_st (S' := (200, [(0, .ref m0), (1, .int (nI pc)), (2, .int 196)], [.int 132, .int 196], M)) rfl rfl rfl ?_
  refine ps_if2 (S1 := (216, [(0, .ref m0), (1, .int (nI pc)), (2, .int 196)], [], M)) (S2 := (203, [(0, .ref m0), (1, .int (nI pc)), (2, .int 196)], [], M)) rfl rfl rfl (fun c_200 => ?_) (fun c_200 => ?_)
  rotate_left
  · exact absurd (by decide) (of_decide_eq_false c_200)
  refine ps_st (S' := (217, [(0, .ref m0), (1, .int (nI pc)), (2, .int 196)], [.int 196], M)) rfl rfl rfl ?_
  refine ps_st (S' := (220, [(0, .ref m0), (1, .int (nI pc)), (2, .int 196)], [.int 196, .int 196], M)) rfl rfl rfl ?_
  refine ps_if2 (S1 := (296, [(0, .ref m0), (1, .int (nI pc)), (2, .int 196)], [], M)) (S2 := (223, [(0, .ref m0), (1, .int (nI pc)), (2, .int 196)], [], M)) rfl rfl rfl (fun c_220 => ?_) (fun c_220 => ?_)
  · exact absurd (of_decide_eq_true c_220) (by decide)
  refine ps_st (S' := (224, [(0, .ref m0), (1, .int (nI pc)), (2, .int 196)], [.ref m0], M)) rfl rfl rfl ?_
  refine ps_st (S' := (225, [(0, .ref m0), (1, .int (nI pc)), (2, .int 196)], [.int (nI pc), .ref m0], M)) rfl rfl rfl ?_
  refine ps_st (S' := (226, [(0, .ref m0), (1, .int (nI pc)), (2, .int 196)], [.int 1, .int (nI pc), .ref m0], M)) rfl rfl rfl ?_
  refine ps_st (S' := (227, [(0, .ref m0), (1, .int (nI pc)), (2, .int 196)], [.int ((nI pc) + 1), .ref m0], M)) rfl rfl rfl ?_
  rw [nI_add1 (p := pc) (k := 1) (x := 1) rfl (by omega)]
  show pl _ _ _ (_, [(0, .ref m0), (1, .int (nI pc)), (2, .int 196)], [.int (nI (pc + 1)), .ref m0], M) _
  refine pl_call (a := [.ref m0, .int (nI (pc + 1))]) (rest := []) rfl rfl rfl (rd_b1 (n := n) (f := f) (cb := cb) (p := (pc + 1)) hR hi77 hF (by omega)) (fun v1 M2 q3 => ?_)
  obtain ⟨rfl, rfl⟩ := q3
  show pl _ _ _ (230, [(0, .ref m0), (1, .int (nI pc)), (2, .int 196)], [.int (nI (by1 f (cb + (pc + 1))))], M) _
  show pl _ _ _ (_, [(0, .ref m0), (1, .int (nI pc)), (2, .int 196)], [.int (nI (by1 f (cb + pc + 1)))], M) _
  have hb_227 := by1_lt f (cb + pc + 1)
  refine ps_st (S' := (231, [(3, .int (nI (by1 f (cb + pc + 1)))), (0, .ref m0), (1, .int (nI pc)), (2, .int 196)], [], M)) rfl rfl rfl ?_
  refine ps_st (S' := (232, [(3, .int (nI (by1 f (cb + pc + 1)))), (0, .ref m0), (1, .int (nI pc)), (2, .int 196)], [.int (nI (by1 f (cb + pc + 1)))], M)) rfl rfl rfl ?_
  refine ps_st (S' := (235, [(3, .int (nI (by1 f (cb + pc + 1)))), (0, .ref m0), (1, .int (nI pc)), (2, .int 196)], [.int 169, .int (nI (by1 f (cb + pc + 1)))], M)) rfl rfl rfl ?_
  refine ps_if2 (S1 := (247, [(0, .ref m0), (1, .int (nI pc)), (3, .int (nI (by1 f (cb + pc + 1))))], [], M)) (S2 := (238, [(3, .int (nI (by1 f (cb + pc + 1)))), (0, .ref m0), (1, .int (nI pc)), (2, .int 196)], [], M)) rfl rfl rfl (fun c_235 => ?_) (fun c_235 => ?_)
  · have c_235 : ¬ (nI (by1 f (cb + pc + 1))) = 169 := of_decide_eq_true c_235
    have n_235 : ¬ (by1 f (cb + pc + 1) = 169) := fun h9 => c_235 ((eq_nI (p := by1 f (cb + pc + 1)) (n := 169) (Nat.lt_trans (by1_lt _ _) (by decide)) (by decide)).mpr h9)
    refine ps_st (S' := (248, [(0, .ref m0), (1, .int (nI pc)), (3, .int (nI (by1 f (cb + pc + 1))))], [.ref m0], M)) rfl rfl rfl ?_
    refine ps_st (S' := (249, [(0, .ref m0), (1, .int (nI pc)), (3, .int (nI (by1 f (cb + pc + 1))))], [.ref m0, .ref m0], M)) rfl rfl rfl ?_
    refine ps_st (S' := (250, [(0, .ref m0), (1, .int (nI pc)), (3, .int (nI (by1 f (cb + pc + 1))))], [.int (nI pc), .ref m0, .ref m0], M)) rfl rfl rfl ?_
    refine ps_st (S' := (251, [(0, .ref m0), (1, .int (nI pc)), (3, .int (nI (by1 f (cb + pc + 1))))], [.int 2, .int (nI pc), .ref m0, .ref m0], M)) rfl rfl rfl ?_
    refine ps_st (S' := (252, [(0, .ref m0), (1, .int (nI pc)), (3, .int (nI (by1 f (cb + pc + 1))))], [.int ((nI pc) + 2), .ref m0, .ref m0], M)) rfl rfl rfl ?_
    rw [nI_add1 (p := pc) (k := 2) (x := 2) rfl (by omega)]
    show pl _ _ _ (_, [(0, .ref m0), (1, .int (nI pc)), (3, .int (nI (by1 f (cb + pc + 1))))], [.int (nI (pc + 2)), .ref m0, .ref m0], M) _
    refine pl_call (a := [.ref m0, .int (nI (pc + 2))]) (rest := [.ref m0]) rfl rfl rfl (rd_b2 (n := n) (f := f) (cb := cb) (p := (pc + 2)) hR hi77 hF (by omega)) (fun v4 M5 q6 => ?_)
    obtain ⟨rfl, rfl⟩ := q6
    show pl _ _ _ (255, [(0, .ref m0), (1, .int (nI pc)), (3, .int (nI (by1 f (cb + pc + 1))))], [.int (nI (by2 f (cb + (pc + 2)))), .ref m0], M) _
    show pl _ _ _ (_, [(0, .ref m0), (1, .int (nI pc)), (3, .int (nI (by1 f (cb + pc + 1))))], [.int (nI (by2 f (cb + pc + 2))), .ref m0], M) _
    have hb_252 := by2_lt f (cb + pc + 2)
    refine ps_st (S' := (256, [(0, .ref m0), (1, .int (nI pc)), (3, .int (nI (by1 f (cb + pc + 1))))], [.int (nI (by1 f (cb + pc + 1))), .int (nI (by2 f (cb + pc + 2))), .ref m0], M)) rfl rfl rfl ?_
    refine ps_st (S' := (258, [(0, .ref m0), (1, .int (nI pc)), (3, .int (nI (by1 f (cb + pc + 1))))], [.int 22, .int (nI (by1 f (cb + pc + 1))), .int (nI (by2 f (cb + pc + 2))), .ref m0], M)) rfl rfl rfl ?_
    refine ps_if2 (S1 := (279, [], [.int (nI (by2 f (cb + pc + 2))), .ref m0], M)) (S2 := (261, [(0, .ref m0), (1, .int (nI pc)), (3, .int (nI (by1 f (cb + pc + 1))))], [.int (nI (by2 f (cb + pc + 2))), .ref m0], M)) rfl rfl rfl (fun c_258 => ?_) (fun c_258 => ?_)
    · have c_258 : (nI (by1 f (cb + pc + 1))) = 22 := of_decide_eq_true c_258
      have n_258 : by1 f (cb + pc + 1) = 22 := (eq_nI (p := by1 f (cb + pc + 1)) (n := 22) (Nat.lt_trans (by1_lt _ _) (by decide)) (by decide)).mp c_258
      refine ps_st (S' := (280, [], [.int 2, .int (nI (by2 f (cb + pc + 2))), .ref m0], M)) rfl rfl rfl ?_
      refine ps_st (S' := (284, [], [.int 2, .int (nI (by2 f (cb + pc + 2))), .ref m0], M)) rfl rfl rfl ?_
      refine pl_call (a := [.ref m0, .int (nI (by2 f (cb + pc + 2))), .int 2]) (rest := []) rfl rfl rfl (rd_local (i := (by2 f (cb + pc + 2))) (k := 2) (ml := ml) hR hi79 (by omega) (by omega) (hml)) (fun v7 M8 q9 => ?_)
      obtain ⟨rfl, rfl⟩ := q9
      show pl _ _ _ (287, [], [.int (nI (loN (by2 f (cb + pc + 2)) 2 ml))], M) _
      have hlo_284 := lo_9 (i := (by2 f (cb + pc + 2))) (k := 2) (ml := ml)
      have hlb_284 := le1_lo (by2 f (cb + pc + 2)) 2 ml
      refine ps_if (S1 := (294, [], [], M)) (S2 := (290, [], [], M)) rfl rfl rfl (fun c_287 => ?_) (fun c_287 => ?_)
      · have c_287 : (nI (loN (by2 f (cb + pc + 2)) 2 ml)) = 0 := of_decide_eq_true c_287
        have n_287 : loN (by2 f (cb + pc + 2)) 2 ml = 0 := (eq_nI (p := loN (by2 f (cb + pc + 2)) 2 ml) (n := 0) (Nat.lt_trans (le1_lo _ _ _) (by decide)) (by decide)).mp c_287
        refine ps_st (S' := (295, [], [.int 0], M)) rfl rfl rfl ?_
        exact ps_ret rfl rfl (⟨congrArg (fun x => some (Value.int (nI x))) (show 0 = if by1 f (cb + pc + 1) = 169 ∧ 51 ≤ mj then 0 else loN (by2 f (cb + pc + 2)) (lpO (by1 f (cb + pc + 1))) ml from by rw [if_neg (by omega), show lpO (by1 f (cb + pc + 1)) = 2 from by unfold lpO; rw [if_pos (by omega)]]; omega), rfl⟩)
      · have c_287 : ¬ ((nI (loN (by2 f (cb + pc + 2)) 2 ml)) = 0) := of_decide_eq_false c_287
        have n_287 : ¬ (loN (by2 f (cb + pc + 2)) 2 ml = 0) := fun h9 => c_287 ((eq_nI (p := loN (by2 f (cb + pc + 2)) 2 ml) (n := 0) (Nat.lt_trans (le1_lo _ _ _) (by decide)) (by decide)).mpr h9)
        refine ps_st (S' := (291, [], [.int 1], M)) rfl rfl rfl ?_
        refine ps_st (S' := (295, [], [.int 1], M)) rfl rfl rfl ?_
        exact ps_ret rfl rfl (⟨congrArg (fun x => some (Value.int (nI x))) (show 1 = if by1 f (cb + pc + 1) = 169 ∧ 51 ≤ mj then 0 else loN (by2 f (cb + pc + 2)) (lpO (by1 f (cb + pc + 1))) ml from by rw [if_neg (by omega), show lpO (by1 f (cb + pc + 1)) = 2 from by unfold lpO; rw [if_pos (by omega)]]; omega), rfl⟩)
    · have c_258 : ¬ ((nI (by1 f (cb + pc + 1))) = 22) := of_decide_eq_false c_258
      have n_258 : ¬ (by1 f (cb + pc + 1) = 22) := fun h9 => c_258 ((eq_nI (p := by1 f (cb + pc + 1)) (n := 22) (Nat.lt_trans (by1_lt _ _) (by decide)) (by decide)).mpr h9)
      refine ps_st (S' := (262, [(0, .ref m0), (1, .int (nI pc)), (3, .int (nI (by1 f (cb + pc + 1))))], [.int (nI (by1 f (cb + pc + 1))), .int (nI (by2 f (cb + pc + 2))), .ref m0], M)) rfl rfl rfl ?_
      refine ps_st (S' := (264, [(0, .ref m0), (1, .int (nI pc)), (3, .int (nI (by1 f (cb + pc + 1))))], [.int 24, .int (nI (by1 f (cb + pc + 1))), .int (nI (by2 f (cb + pc + 2))), .ref m0], M)) rfl rfl rfl ?_
      refine ps_if2 (S1 := (279, [], [.int (nI (by2 f (cb + pc + 2))), .ref m0], M)) (S2 := (267, [(0, .ref m0), (1, .int (nI pc)), (3, .int (nI (by1 f (cb + pc + 1))))], [.int (nI (by2 f (cb + pc + 2))), .ref m0], M)) rfl rfl rfl (fun c_264 => ?_) (fun c_264 => ?_)
      · have c_264 : (nI (by1 f (cb + pc + 1))) = 24 := of_decide_eq_true c_264
        have n_264 : by1 f (cb + pc + 1) = 24 := (eq_nI (p := by1 f (cb + pc + 1)) (n := 24) (Nat.lt_trans (by1_lt _ _) (by decide)) (by decide)).mp c_264
        refine ps_st (S' := (280, [], [.int 2, .int (nI (by2 f (cb + pc + 2))), .ref m0], M)) rfl rfl rfl ?_
        refine ps_st (S' := (284, [], [.int 2, .int (nI (by2 f (cb + pc + 2))), .ref m0], M)) rfl rfl rfl ?_
        refine pl_call (a := [.ref m0, .int (nI (by2 f (cb + pc + 2))), .int 2]) (rest := []) rfl rfl rfl (rd_local (i := (by2 f (cb + pc + 2))) (k := 2) (ml := ml) hR hi79 (by omega) (by omega) (hml)) (fun v10 M11 q12 => ?_)
        obtain ⟨rfl, rfl⟩ := q12
        show pl _ _ _ (287, [], [.int (nI (loN (by2 f (cb + pc + 2)) 2 ml))], M) _
        have hlo_284 := lo_9 (i := (by2 f (cb + pc + 2))) (k := 2) (ml := ml)
        have hlb_284 := le1_lo (by2 f (cb + pc + 2)) 2 ml
        refine ps_if (S1 := (294, [], [], M)) (S2 := (290, [], [], M)) rfl rfl rfl (fun c_287 => ?_) (fun c_287 => ?_)
        · have c_287 : (nI (loN (by2 f (cb + pc + 2)) 2 ml)) = 0 := of_decide_eq_true c_287
          have n_287 : loN (by2 f (cb + pc + 2)) 2 ml = 0 := (eq_nI (p := loN (by2 f (cb + pc + 2)) 2 ml) (n := 0) (Nat.lt_trans (le1_lo _ _ _) (by decide)) (by decide)).mp c_287
          refine ps_st (S' := (295, [], [.int 0], M)) rfl rfl rfl ?_
          exact ps_ret rfl rfl (⟨congrArg (fun x => some (Value.int (nI x))) (show 0 = if by1 f (cb + pc + 1) = 169 ∧ 51 ≤ mj then 0 else loN (by2 f (cb + pc + 2)) (lpO (by1 f (cb + pc + 1))) ml from by rw [if_neg (by omega), show lpO (by1 f (cb + pc + 1)) = 2 from by unfold lpO; rw [if_pos (by omega)]]; omega), rfl⟩)
        · have c_287 : ¬ ((nI (loN (by2 f (cb + pc + 2)) 2 ml)) = 0) := of_decide_eq_false c_287
          have n_287 : ¬ (loN (by2 f (cb + pc + 2)) 2 ml = 0) := fun h9 => c_287 ((eq_nI (p := loN (by2 f (cb + pc + 2)) 2 ml) (n := 0) (Nat.lt_trans (le1_lo _ _ _) (by decide)) (by decide)).mpr h9)
          refine ps_st (S' := (291, [], [.int 1], M)) rfl rfl rfl ?_
          refine ps_st (S' := (295, [], [.int 1], M)) rfl rfl rfl ?_
          exact ps_ret rfl rfl (⟨congrArg (fun x => some (Value.int (nI x))) (show 1 = if by1 f (cb + pc + 1) = 169 ∧ 51 ≤ mj then 0 else loN (by2 f (cb + pc + 2)) (lpO (by1 f (cb + pc + 1))) ml from by rw [if_neg (by omega), show lpO (by1 f (cb + pc + 1)) = 2 from by unfold lpO; rw [if_pos (by omega)]]; omega), rfl⟩)
      · have c_264 : ¬ ((nI (by1 f (cb + pc + 1))) = 24) := of_decide_eq_false c_264
        have n_264 : ¬ (by1 f (cb + pc + 1) = 24) := fun h9 => c_264 ((eq_nI (p := by1 f (cb + pc + 1)) (n := 24) (Nat.lt_trans (by1_lt _ _) (by decide)) (by decide)).mpr h9)
        refine ps_st (S' := (268, [(0, .ref m0), (1, .int (nI pc)), (3, .int (nI (by1 f (cb + pc + 1))))], [.int (nI (by1 f (cb + pc + 1))), .int (nI (by2 f (cb + pc + 2))), .ref m0], M)) rfl rfl rfl ?_
        refine ps_st (S' := (270, [(0, .ref m0), (1, .int (nI pc)), (3, .int (nI (by1 f (cb + pc + 1))))], [.int 55, .int (nI (by1 f (cb + pc + 1))), .int (nI (by2 f (cb + pc + 2))), .ref m0], M)) rfl rfl rfl ?_
        refine ps_if2 (S1 := (279, [], [.int (nI (by2 f (cb + pc + 2))), .ref m0], M)) (S2 := (273, [(0, .ref m0), (1, .int (nI pc)), (3, .int (nI (by1 f (cb + pc + 1))))], [.int (nI (by2 f (cb + pc + 2))), .ref m0], M)) rfl rfl rfl (fun c_270 => ?_) (fun c_270 => ?_)
        · have c_270 : (nI (by1 f (cb + pc + 1))) = 55 := of_decide_eq_true c_270
          have n_270 : by1 f (cb + pc + 1) = 55 := (eq_nI (p := by1 f (cb + pc + 1)) (n := 55) (Nat.lt_trans (by1_lt _ _) (by decide)) (by decide)).mp c_270
          refine ps_st (S' := (280, [], [.int 2, .int (nI (by2 f (cb + pc + 2))), .ref m0], M)) rfl rfl rfl ?_
          refine ps_st (S' := (284, [], [.int 2, .int (nI (by2 f (cb + pc + 2))), .ref m0], M)) rfl rfl rfl ?_
          refine pl_call (a := [.ref m0, .int (nI (by2 f (cb + pc + 2))), .int 2]) (rest := []) rfl rfl rfl (rd_local (i := (by2 f (cb + pc + 2))) (k := 2) (ml := ml) hR hi79 (by omega) (by omega) (hml)) (fun v13 M14 q15 => ?_)
          obtain ⟨rfl, rfl⟩ := q15
          show pl _ _ _ (287, [], [.int (nI (loN (by2 f (cb + pc + 2)) 2 ml))], M) _
          have hlo_284 := lo_9 (i := (by2 f (cb + pc + 2))) (k := 2) (ml := ml)
          have hlb_284 := le1_lo (by2 f (cb + pc + 2)) 2 ml
          refine ps_if (S1 := (294, [], [], M)) (S2 := (290, [], [], M)) rfl rfl rfl (fun c_287 => ?_) (fun c_287 => ?_)
          · have c_287 : (nI (loN (by2 f (cb + pc + 2)) 2 ml)) = 0 := of_decide_eq_true c_287
            have n_287 : loN (by2 f (cb + pc + 2)) 2 ml = 0 := (eq_nI (p := loN (by2 f (cb + pc + 2)) 2 ml) (n := 0) (Nat.lt_trans (le1_lo _ _ _) (by decide)) (by decide)).mp c_287
            refine ps_st (S' := (295, [], [.int 0], M)) rfl rfl rfl ?_
            exact ps_ret rfl rfl (⟨congrArg (fun x => some (Value.int (nI x))) (show 0 = if by1 f (cb + pc + 1) = 169 ∧ 51 ≤ mj then 0 else loN (by2 f (cb + pc + 2)) (lpO (by1 f (cb + pc + 1))) ml from by rw [if_neg (by omega), show lpO (by1 f (cb + pc + 1)) = 2 from by unfold lpO; rw [if_pos (by omega)]]; omega), rfl⟩)
          · have c_287 : ¬ ((nI (loN (by2 f (cb + pc + 2)) 2 ml)) = 0) := of_decide_eq_false c_287
            have n_287 : ¬ (loN (by2 f (cb + pc + 2)) 2 ml = 0) := fun h9 => c_287 ((eq_nI (p := loN (by2 f (cb + pc + 2)) 2 ml) (n := 0) (Nat.lt_trans (le1_lo _ _ _) (by decide)) (by decide)).mpr h9)
            refine ps_st (S' := (291, [], [.int 1], M)) rfl rfl rfl ?_
            refine ps_st (S' := (295, [], [.int 1], M)) rfl rfl rfl ?_
            exact ps_ret rfl rfl (⟨congrArg (fun x => some (Value.int (nI x))) (show 1 = if by1 f (cb + pc + 1) = 169 ∧ 51 ≤ mj then 0 else loN (by2 f (cb + pc + 2)) (lpO (by1 f (cb + pc + 1))) ml from by rw [if_neg (by omega), show lpO (by1 f (cb + pc + 1)) = 2 from by unfold lpO; rw [if_pos (by omega)]]; omega), rfl⟩)
        · have c_270 : ¬ ((nI (by1 f (cb + pc + 1))) = 55) := of_decide_eq_false c_270
          have n_270 : ¬ (by1 f (cb + pc + 1) = 55) := fun h9 => c_270 ((eq_nI (p := by1 f (cb + pc + 1)) (n := 55) (Nat.lt_trans (by1_lt _ _) (by decide)) (by decide)).mpr h9)
          refine ps_st (S' := (274, [(0, .ref m0), (1, .int (nI pc)), (3, .int (nI (by1 f (cb + pc + 1))))], [.int (nI (by1 f (cb + pc + 1))), .int (nI (by2 f (cb + pc + 2))), .ref m0], M)) rfl rfl rfl ?_
          refine ps_st (S' := (276, [(0, .ref m0), (1, .int (nI pc)), (3, .int (nI (by1 f (cb + pc + 1))))], [.int 57, .int (nI (by1 f (cb + pc + 1))), .int (nI (by2 f (cb + pc + 2))), .ref m0], M)) rfl rfl rfl ?_
          refine ps_if2 (S1 := (283, [(0, .ref m0), (1, .int (nI pc)), (3, .int (nI (by1 f (cb + pc + 1))))], [.int (nI (by2 f (cb + pc + 2))), .ref m0], M)) (S2 := (279, [], [.int (nI (by2 f (cb + pc + 2))), .ref m0], M)) rfl rfl rfl (fun c_276 => ?_) (fun c_276 => ?_)
          · have c_276 : ¬ (nI (by1 f (cb + pc + 1))) = 57 := of_decide_eq_true c_276
            have n_276 : ¬ (by1 f (cb + pc + 1) = 57) := fun h9 => c_276 ((eq_nI (p := by1 f (cb + pc + 1)) (n := 57) (Nat.lt_trans (by1_lt _ _) (by decide)) (by decide)).mpr h9)
            refine ps_st (S' := (284, [], [.int 1, .int (nI (by2 f (cb + pc + 2))), .ref m0], M)) rfl rfl rfl ?_
            refine pl_call (a := [.ref m0, .int (nI (by2 f (cb + pc + 2))), .int 1]) (rest := []) rfl rfl rfl (rd_local (i := (by2 f (cb + pc + 2))) (k := 1) (ml := ml) hR hi79 (by omega) (by omega) (hml)) (fun v16 M17 q18 => ?_)
            obtain ⟨rfl, rfl⟩ := q18
            show pl _ _ _ (287, [], [.int (nI (loN (by2 f (cb + pc + 2)) 1 ml))], M) _
            have hlo_284 := lo_9 (i := (by2 f (cb + pc + 2))) (k := 1) (ml := ml)
            have hlb_284 := le1_lo (by2 f (cb + pc + 2)) 1 ml
            refine ps_if (S1 := (294, [], [], M)) (S2 := (290, [], [], M)) rfl rfl rfl (fun c_287 => ?_) (fun c_287 => ?_)
            · have c_287 : (nI (loN (by2 f (cb + pc + 2)) 1 ml)) = 0 := of_decide_eq_true c_287
              have n_287 : loN (by2 f (cb + pc + 2)) 1 ml = 0 := (eq_nI (p := loN (by2 f (cb + pc + 2)) 1 ml) (n := 0) (Nat.lt_trans (le1_lo _ _ _) (by decide)) (by decide)).mp c_287
              refine ps_st (S' := (295, [], [.int 0], M)) rfl rfl rfl ?_
              exact ps_ret rfl rfl (⟨congrArg (fun x => some (Value.int (nI x))) (show 0 = if by1 f (cb + pc + 1) = 169 ∧ 51 ≤ mj then 0 else loN (by2 f (cb + pc + 2)) (lpO (by1 f (cb + pc + 1))) ml from by rw [if_neg (by omega), show lpO (by1 f (cb + pc + 1)) = 1 from by unfold lpO; rw [if_neg (by omega)]]; omega), rfl⟩)
            · have c_287 : ¬ ((nI (loN (by2 f (cb + pc + 2)) 1 ml)) = 0) := of_decide_eq_false c_287
              have n_287 : ¬ (loN (by2 f (cb + pc + 2)) 1 ml = 0) := fun h9 => c_287 ((eq_nI (p := loN (by2 f (cb + pc + 2)) 1 ml) (n := 0) (Nat.lt_trans (le1_lo _ _ _) (by decide)) (by decide)).mpr h9)
              refine ps_st (S' := (291, [], [.int 1], M)) rfl rfl rfl ?_
              refine ps_st (S' := (295, [], [.int 1], M)) rfl rfl rfl ?_
              exact ps_ret rfl rfl (⟨congrArg (fun x => some (Value.int (nI x))) (show 1 = if by1 f (cb + pc + 1) = 169 ∧ 51 ≤ mj then 0 else loN (by2 f (cb + pc + 2)) (lpO (by1 f (cb + pc + 1))) ml from by rw [if_neg (by omega), show lpO (by1 f (cb + pc + 1)) = 1 from by unfold lpO; rw [if_neg (by omega)]]; omega), rfl⟩)
          · have c_276 : ¬ (¬ (nI (by1 f (cb + pc + 1))) = 57) := of_decide_eq_false c_276
            have n_276 : by1 f (cb + pc + 1) = 57 := (eq_nI (p := by1 f (cb + pc + 1)) (n := 57) (Nat.lt_trans (by1_lt _ _) (by decide)) (by decide)).mp (Decidable.not_not.mp c_276)
            refine ps_st (S' := (280, [], [.int 2, .int (nI (by2 f (cb + pc + 2))), .ref m0], M)) rfl rfl rfl ?_
            refine ps_st (S' := (284, [], [.int 2, .int (nI (by2 f (cb + pc + 2))), .ref m0], M)) rfl rfl rfl ?_
            refine pl_call (a := [.ref m0, .int (nI (by2 f (cb + pc + 2))), .int 2]) (rest := []) rfl rfl rfl (rd_local (i := (by2 f (cb + pc + 2))) (k := 2) (ml := ml) hR hi79 (by omega) (by omega) (hml)) (fun v19 M20 q21 => ?_)
            obtain ⟨rfl, rfl⟩ := q21
            show pl _ _ _ (287, [], [.int (nI (loN (by2 f (cb + pc + 2)) 2 ml))], M) _
            have hlo_284 := lo_9 (i := (by2 f (cb + pc + 2))) (k := 2) (ml := ml)
            have hlb_284 := le1_lo (by2 f (cb + pc + 2)) 2 ml
            refine ps_if (S1 := (294, [], [], M)) (S2 := (290, [], [], M)) rfl rfl rfl (fun c_287 => ?_) (fun c_287 => ?_)
            · have c_287 : (nI (loN (by2 f (cb + pc + 2)) 2 ml)) = 0 := of_decide_eq_true c_287
              have n_287 : loN (by2 f (cb + pc + 2)) 2 ml = 0 := (eq_nI (p := loN (by2 f (cb + pc + 2)) 2 ml) (n := 0) (Nat.lt_trans (le1_lo _ _ _) (by decide)) (by decide)).mp c_287
              refine ps_st (S' := (295, [], [.int 0], M)) rfl rfl rfl ?_
              exact ps_ret rfl rfl (⟨congrArg (fun x => some (Value.int (nI x))) (show 0 = if by1 f (cb + pc + 1) = 169 ∧ 51 ≤ mj then 0 else loN (by2 f (cb + pc + 2)) (lpO (by1 f (cb + pc + 1))) ml from by rw [if_neg (by omega), show lpO (by1 f (cb + pc + 1)) = 2 from by unfold lpO; rw [if_pos (by omega)]]; omega), rfl⟩)
            · have c_287 : ¬ ((nI (loN (by2 f (cb + pc + 2)) 2 ml)) = 0) := of_decide_eq_false c_287
              have n_287 : ¬ (loN (by2 f (cb + pc + 2)) 2 ml = 0) := fun h9 => c_287 ((eq_nI (p := loN (by2 f (cb + pc + 2)) 2 ml) (n := 0) (Nat.lt_trans (le1_lo _ _ _) (by decide)) (by decide)).mpr h9)
              refine ps_st (S' := (291, [], [.int 1], M)) rfl rfl rfl ?_
              refine ps_st (S' := (295, [], [.int 1], M)) rfl rfl rfl ?_
              exact ps_ret rfl rfl (⟨congrArg (fun x => some (Value.int (nI x))) (show 1 = if by1 f (cb + pc + 1) = 169 ∧ 51 ≤ mj then 0 else loN (by2 f (cb + pc + 2)) (lpO (by1 f (cb + pc + 1))) ml from by rw [if_neg (by omega), show lpO (by1 f (cb + pc + 1)) = 2 from by unfold lpO; rw [if_pos (by omega)]]; omega), rfl⟩)
  · have c_235 : ¬ (¬ (nI (by1 f (cb + pc + 1))) = 169) := of_decide_eq_false c_235
    have n_235 : by1 f (cb + pc + 1) = 169 := (eq_nI (p := by1 f (cb + pc + 1)) (n := 169) (Nat.lt_trans (by1_lt _ _) (by decide)) (by decide)).mp (Decidable.not_not.mp c_235)
    refine ps_st (S' := (239, [(3, .int (nI (by1 f (cb + pc + 1)))), (0, .ref m0), (1, .int (nI pc)), (2, .int 196)], [.ref m0], M)) rfl rfl rfl ?_
    refine pr_int (j := 53) (S' := (242, [(3, .int (nI (by1 f (cb + pc + 1)))), (0, .ref m0), (1, .int (nI pc)), (2, .int 196)], [.int (nI mj)], M)) rfl hR rfl hi53 rfl ?_
    refine ps_st (S' := (244, [(3, .int (nI (by1 f (cb + pc + 1)))), (0, .ref m0), (1, .int (nI pc)), (2, .int 196)], [.int 51, .int (nI mj)], M)) rfl rfl rfl ?_
    refine ps_if2 (S1 := (294, [], [], M)) (S2 := (247, [(0, .ref m0), (1, .int (nI pc)), (3, .int (nI (by1 f (cb + pc + 1))))], [], M)) rfl rfl rfl (fun c_244 => ?_) (fun c_244 => ?_)
    · have c_244 : 51 ≤ (nI mj) := of_decide_eq_true c_244
      have n_244 : 51 ≤ mj := (le_nI (p := 51) (n := mj) (by decide) (by omega)).mp c_244
      refine ps_st (S' := (295, [], [.int 0], M)) rfl rfl rfl ?_
      exact ps_ret rfl rfl (⟨congrArg (fun x => some (Value.int (nI x))) (show 0 = if by1 f (cb + pc + 1) = 169 ∧ 51 ≤ mj then 0 else loN (by2 f (cb + pc + 2)) (lpO (by1 f (cb + pc + 1))) ml from by rw [if_pos (by omega)]), rfl⟩)
    · have c_244 : ¬ (51 ≤ (nI mj)) := of_decide_eq_false c_244
      have n_244 : ¬ (51 ≤ mj) := fun h9 => c_244 ((le_nI (p := 51) (n := mj) (by decide) (by omega)).mpr h9)
      refine ps_st (S' := (248, [(0, .ref m0), (1, .int (nI pc)), (3, .int (nI (by1 f (cb + pc + 1))))], [.ref m0], M)) rfl rfl rfl ?_
      refine ps_st (S' := (249, [(0, .ref m0), (1, .int (nI pc)), (3, .int (nI (by1 f (cb + pc + 1))))], [.ref m0, .ref m0], M)) rfl rfl rfl ?_
      refine ps_st (S' := (250, [(0, .ref m0), (1, .int (nI pc)), (3, .int (nI (by1 f (cb + pc + 1))))], [.int (nI pc), .ref m0, .ref m0], M)) rfl rfl rfl ?_
      refine ps_st (S' := (251, [(0, .ref m0), (1, .int (nI pc)), (3, .int (nI (by1 f (cb + pc + 1))))], [.int 2, .int (nI pc), .ref m0, .ref m0], M)) rfl rfl rfl ?_
      refine ps_st (S' := (252, [(0, .ref m0), (1, .int (nI pc)), (3, .int (nI (by1 f (cb + pc + 1))))], [.int ((nI pc) + 2), .ref m0, .ref m0], M)) rfl rfl rfl ?_
      rw [nI_add1 (p := pc) (k := 2) (x := 2) rfl (by omega)]
      show pl _ _ _ (_, [(0, .ref m0), (1, .int (nI pc)), (3, .int (nI (by1 f (cb + pc + 1))))], [.int (nI (pc + 2)), .ref m0, .ref m0], M) _
      refine pl_call (a := [.ref m0, .int (nI (pc + 2))]) (rest := [.ref m0]) rfl rfl rfl (rd_b2 (n := n) (f := f) (cb := cb) (p := (pc + 2)) hR hi77 hF (by omega)) (fun v22 M23 q24 => ?_)
      obtain ⟨rfl, rfl⟩ := q24
      show pl _ _ _ (255, [(0, .ref m0), (1, .int (nI pc)), (3, .int (nI (by1 f (cb + pc + 1))))], [.int (nI (by2 f (cb + (pc + 2)))), .ref m0], M) _
      show pl _ _ _ (_, [(0, .ref m0), (1, .int (nI pc)), (3, .int (nI (by1 f (cb + pc + 1))))], [.int (nI (by2 f (cb + pc + 2))), .ref m0], M) _
      have hb_252 := by2_lt f (cb + pc + 2)
      refine ps_st (S' := (256, [(0, .ref m0), (1, .int (nI pc)), (3, .int (nI (by1 f (cb + pc + 1))))], [.int (nI (by1 f (cb + pc + 1))), .int (nI (by2 f (cb + pc + 2))), .ref m0], M)) rfl rfl rfl ?_
      refine ps_st (S' := (258, [(0, .ref m0), (1, .int (nI pc)), (3, .int (nI (by1 f (cb + pc + 1))))], [.int 22, .int (nI (by1 f (cb + pc + 1))), .int (nI (by2 f (cb + pc + 2))), .ref m0], M)) rfl rfl rfl ?_
      refine ps_if2 (S1 := (279, [], [.int (nI (by2 f (cb + pc + 2))), .ref m0], M)) (S2 := (261, [(0, .ref m0), (1, .int (nI pc)), (3, .int (nI (by1 f (cb + pc + 1))))], [.int (nI (by2 f (cb + pc + 2))), .ref m0], M)) rfl rfl rfl (fun c_258 => ?_) (fun c_258 => ?_)
      · exact absurd (of_decide_eq_true c_258) (show ¬ ((nI (by1 f (cb + pc + 1))) = 22) from fun h9 => absurd ((eq_nI (p := by1 f (cb + pc + 1)) (n := 22) (Nat.lt_trans (by1_lt _ _) (by decide)) (by decide)).mp h9) (by omega))
      refine ps_st (S' := (262, [(0, .ref m0), (1, .int (nI pc)), (3, .int (nI (by1 f (cb + pc + 1))))], [.int (nI (by1 f (cb + pc + 1))), .int (nI (by2 f (cb + pc + 2))), .ref m0], M)) rfl rfl rfl ?_
      refine ps_st (S' := (264, [(0, .ref m0), (1, .int (nI pc)), (3, .int (nI (by1 f (cb + pc + 1))))], [.int 24, .int (nI (by1 f (cb + pc + 1))), .int (nI (by2 f (cb + pc + 2))), .ref m0], M)) rfl rfl rfl ?_
      refine ps_if2 (S1 := (279, [], [.int (nI (by2 f (cb + pc + 2))), .ref m0], M)) (S2 := (267, [(0, .ref m0), (1, .int (nI pc)), (3, .int (nI (by1 f (cb + pc + 1))))], [.int (nI (by2 f (cb + pc + 2))), .ref m0], M)) rfl rfl rfl (fun c_264 => ?_) (fun c_264 => ?_)
      · exact absurd (of_decide_eq_true c_264) (show ¬ ((nI (by1 f (cb + pc + 1))) = 24) from fun h9 => absurd ((eq_nI (p := by1 f (cb + pc + 1)) (n := 24) (Nat.lt_trans (by1_lt _ _) (by decide)) (by decide)).mp h9) (by omega))
      refine ps_st (S' := (268, [(0, .ref m0), (1, .int (nI pc)), (3, .int (nI (by1 f (cb + pc + 1))))], [.int (nI (by1 f (cb + pc + 1))), .int (nI (by2 f (cb + pc + 2))), .ref m0], M)) rfl rfl rfl ?_
      refine ps_st (S' := (270, [(0, .ref m0), (1, .int (nI pc)), (3, .int (nI (by1 f (cb + pc + 1))))], [.int 55, .int (nI (by1 f (cb + pc + 1))), .int (nI (by2 f (cb + pc + 2))), .ref m0], M)) rfl rfl rfl ?_
      refine ps_if2 (S1 := (279, [], [.int (nI (by2 f (cb + pc + 2))), .ref m0], M)) (S2 := (273, [(0, .ref m0), (1, .int (nI pc)), (3, .int (nI (by1 f (cb + pc + 1))))], [.int (nI (by2 f (cb + pc + 2))), .ref m0], M)) rfl rfl rfl (fun c_270 => ?_) (fun c_270 => ?_)
      · exact absurd (of_decide_eq_true c_270) (show ¬ ((nI (by1 f (cb + pc + 1))) = 55) from fun h9 => absurd ((eq_nI (p := by1 f (cb + pc + 1)) (n := 55) (Nat.lt_trans (by1_lt _ _) (by decide)) (by decide)).mp h9) (by omega))
      refine ps_st (S' := (274, [(0, .ref m0), (1, .int (nI pc)), (3, .int (nI (by1 f (cb + pc + 1))))], [.int (nI (by1 f (cb + pc + 1))), .int (nI (by2 f (cb + pc + 2))), .ref m0], M)) rfl rfl rfl ?_
      refine ps_st (S' := (276, [(0, .ref m0), (1, .int (nI pc)), (3, .int (nI (by1 f (cb + pc + 1))))], [.int 57, .int (nI (by1 f (cb + pc + 1))), .int (nI (by2 f (cb + pc + 2))), .ref m0], M)) rfl rfl rfl ?_
      refine ps_if2 (S1 := (283, [(0, .ref m0), (1, .int (nI pc)), (3, .int (nI (by1 f (cb + pc + 1))))], [.int (nI (by2 f (cb + pc + 2))), .ref m0], M)) (S2 := (279, [], [.int (nI (by2 f (cb + pc + 2))), .ref m0], M)) rfl rfl rfl (fun c_276 => ?_) (fun c_276 => ?_)
      rotate_left
      · exact absurd (show ¬ ((nI (by1 f (cb + pc + 1))) = 57) from fun h9 => absurd ((eq_nI (p := by1 f (cb + pc + 1)) (n := 57) (Nat.lt_trans (by1_lt _ _) (by decide)) (by decide)).mp h9) (by omega)) (of_decide_eq_false c_276)
      refine ps_st (S' := (284, [], [.int 1, .int (nI (by2 f (cb + pc + 2))), .ref m0], M)) rfl rfl rfl ?_
      refine pl_call (a := [.ref m0, .int (nI (by2 f (cb + pc + 2))), .int 1]) (rest := []) rfl rfl rfl (rd_local (i := (by2 f (cb + pc + 2))) (k := 1) (ml := ml) hR hi79 (by omega) (by omega) (hml)) (fun v25 M26 q27 => ?_)
      obtain ⟨rfl, rfl⟩ := q27
      show pl _ _ _ (287, [], [.int (nI (loN (by2 f (cb + pc + 2)) 1 ml))], M) _
      have hlo_284 := lo_9 (i := (by2 f (cb + pc + 2))) (k := 1) (ml := ml)
      have hlb_284 := le1_lo (by2 f (cb + pc + 2)) 1 ml
      refine ps_if (S1 := (294, [], [], M)) (S2 := (290, [], [], M)) rfl rfl rfl (fun c_287 => ?_) (fun c_287 => ?_)
      · have c_287 : (nI (loN (by2 f (cb + pc + 2)) 1 ml)) = 0 := of_decide_eq_true c_287
        have n_287 : loN (by2 f (cb + pc + 2)) 1 ml = 0 := (eq_nI (p := loN (by2 f (cb + pc + 2)) 1 ml) (n := 0) (Nat.lt_trans (le1_lo _ _ _) (by decide)) (by decide)).mp c_287
        refine ps_st (S' := (295, [], [.int 0], M)) rfl rfl rfl ?_
        exact ps_ret rfl rfl (⟨congrArg (fun x => some (Value.int (nI x))) (show 0 = if by1 f (cb + pc + 1) = 169 ∧ 51 ≤ mj then 0 else loN (by2 f (cb + pc + 2)) (lpO (by1 f (cb + pc + 1))) ml from by rw [if_neg (by omega), show lpO (by1 f (cb + pc + 1)) = 1 from by unfold lpO; rw [if_neg (by omega)]]; omega), rfl⟩)
      · have c_287 : ¬ ((nI (loN (by2 f (cb + pc + 2)) 1 ml)) = 0) := of_decide_eq_false c_287
        have n_287 : ¬ (loN (by2 f (cb + pc + 2)) 1 ml = 0) := fun h9 => c_287 ((eq_nI (p := loN (by2 f (cb + pc + 2)) 1 ml) (n := 0) (Nat.lt_trans (le1_lo _ _ _) (by decide)) (by decide)).mpr h9)
        refine ps_st (S' := (291, [], [.int 1], M)) rfl rfl rfl ?_
        refine ps_st (S' := (295, [], [.int 1], M)) rfl rfl rfl ?_
        exact ps_ret rfl rfl (⟨congrArg (fun x => some (Value.int (nI x))) (show 1 = if by1 f (cb + pc + 1) = 169 ∧ 51 ≤ mj then 0 else loN (by2 f (cb + pc + 2)) (lpO (by1 f (cb + pc + 1))) ml from by rw [if_neg (by omega), show lpO (by1 f (cb + pc + 1)) = 1 from by unfold lpO; rw [if_neg (by omega)]]; omega), rfl⟩)
set_option maxHeartbeats 1000000 in
theorem rd_op188 {g : xe_G} {m0 : Nat} {q : Nat → Nat} {z : Nat × Nat} {I : rI} {R : rR} {M : mi_H} {n : Nat} {f : Nat → Int32} {tx : List (List Nat)} {cN : Nat} {A : Nat → Nat} {N mj : Nat} {E : List (Nat × Nat)} {cb ml s9 pc : Nat} (hR : RS g m0 q z I R M) (hi51 : I 51 = some 0) (hi52 : I 52 = some (nI N)) (hi53 : I 53 = some (nI mj)) (hi77 : I 77 = some (nI cb)) (hi79 : I 79 = some (nI ml)) (hi9 : I 9 = some (nI s9)) (hF : FK n f I R) (hY : SYT tx cN A I R) (hP : RPV f n E tx N I R) (hEP : EP f n E) (hN : N < 65536) (hmj : mj < 65536) (hml : ml < 65536) (hs9 : s9 < tx.length ∧ tx.getD s9 [] = ltx 14) (hCP : CP f n E) (hPF : PF f n E) (hin : cb + pc + 2 ≤ n) : pt (mT g) 228 [.ref m0, .int (nI pc), .int 188] M (fun v M' => (v = some (.int (nI (if 4 ≤ by1 f (cb + pc + 1) ∧ by1 f (cb + pc + 1) ≤ 11 then 1 else 0))) ∧ M = M')) := by
  refine pt_in (b := mb_228 g) rfl (fun kf => ?_)
  show pl (mT g) kf (mb_228 g).2 (0, [(0, .ref m0), (1, .int (nI pc)), (2, .int 188)], [], M) _
  have hn := hF.1
  have htl := hY.1.2.2.1
  refine ps_st (S' := (1, [(0, .ref m0), (1, .int (nI pc)), (2, .int 188)], [.int 188], M)) rfl rfl rfl ?_
  refine ps_st (S' := (4, [(0, .ref m0), (1, .int (nI pc)), (2, .int 188)], [.int 168, .int 188], M)) rfl rfl rfl ?_
  refine ps_if2 (S1 := (21, [(0, .ref m0), (1, .int (nI pc)), (2, .int 188)], [], M)) (S2 := (7, [(0, .ref m0), (1, .int (nI pc)), (2, .int 188)], [], M)) rfl rfl rfl (fun c_4 => ?_) (fun c_4 => ?_)
  · exact absurd (of_decide_eq_true c_4) (by decide)
  refine ps_st (S' := (8, [(0, .ref m0), (1, .int (nI pc)), (2, .int 188)], [.int 188], M)) rfl rfl rfl ?_
  refine ps_st (S' := (11, [(0, .ref m0), (1, .int (nI pc)), (2, .int 188)], [.int 169, .int 188], M)) rfl rfl rfl ?_
  refine ps_if2 (S1 := (21, [(0, .ref m0), (1, .int (nI pc)), (2, .int 188)], [], M)) (S2 := (14, [(0, .ref m0), (1, .int (nI pc)), (2, .int 188)], [], M)) rfl rfl rfl (fun c_11 => ?_) (fun c_11 => ?_)
  · exact absurd (of_decide_eq_true c_11) (by decide)
  refine ps_st (S' := (15, [(0, .ref m0), (1, .int (nI pc)), (2, .int 188)], [.int 188], M)) rfl rfl rfl ?_
  refine ps_st (S' := (18, [(0, .ref m0), (1, .int (nI pc)), (2, .int 188)], [.int 201, .int 188], M)) rfl rfl rfl ?_
  refine ps_if2 (S1 := (58, [(0, .ref m0), (1, .int (nI pc)), (2, .int 188)], [], M)) (S2 := (21, [(0, .ref m0), (1, .int (nI pc)), (2, .int 188)], [], M)) rfl rfl rfl (fun c_18 => ?_) (fun c_18 => ?_)
  rotate_left
  · exact absurd (by decide) (of_decide_eq_false c_18)
  refine ps_st (S' := (59, [(0, .ref m0), (1, .int (nI pc)), (2, .int 188)], [.int 188], M)) rfl rfl rfl ?_
  refine ps_st (S' := (61, [(0, .ref m0), (1, .int (nI pc)), (2, .int 188)], [.int 21, .int 188], M)) rfl rfl rfl ?_
  refine ps_if2 (S1 := (70, [(0, .ref m0), (1, .int (nI pc)), (2, .int 188)], [], M)) (S2 := (64, [(0, .ref m0), (1, .int (nI pc)), (2, .int 188)], [], M)) rfl rfl rfl (fun c_61 => ?_) (fun c_61 => ?_)
  · exact absurd (of_decide_eq_true c_61) (by decide)
  refine ps_st (S' := (65, [(0, .ref m0), (1, .int (nI pc)), (2, .int 188)], [.int 188], M)) rfl rfl rfl ?_
  refine ps_st (S' := (67, [(0, .ref m0), (1, .int (nI pc)), (2, .int 188)], [.int 25, .int 188], M)) rfl rfl rfl ?_
  refine ps_if2 (S1 := (82, [(0, .ref m0), (1, .int (nI pc)), (2, .int 188)], [], M)) (S2 := (70, [(0, .ref m0), (1, .int (nI pc)), (2, .int 188)], [], M)) rfl rfl rfl (fun c_67 => ?_) (fun c_67 => ?_)
  · exact absurd (of_decide_eq_true c_67) (by decide)
  refine ps_st (S' := (71, [(0, .ref m0), (1, .int (nI pc)), (2, .int 188)], [.int 188], M)) rfl rfl rfl ?_
  refine ps_st (S' := (73, [(0, .ref m0), (1, .int (nI pc)), (2, .int 188)], [.int 54, .int 188], M)) rfl rfl rfl ?_
  refine ps_if2 (S1 := (127, [(0, .ref m0), (1, .int (nI pc)), (2, .int 188)], [], M)) (S2 := (76, [(0, .ref m0), (1, .int (nI pc)), (2, .int 188)], [], M)) rfl rfl rfl (fun c_73 => ?_) (fun c_73 => ?_)
  · exact absurd (of_decide_eq_true c_73) (by decide)
  refine ps_st (S' := (77, [(0, .ref m0), (1, .int (nI pc)), (2, .int 188)], [.int 188], M)) rfl rfl rfl ?_
  refine ps_st (S' := (79, [(0, .ref m0), (1, .int (nI pc)), (2, .int 188)], [.int 58, .int 188], M)) rfl rfl rfl ?_
  refine ps_if2 (S1 := (127, [(0, .ref m0), (1, .int (nI pc)), (2, .int 188)], [], M)) (S2 := (82, [(0, .ref m0), (1, .int (nI pc)), (2, .int 188)], [], M)) rfl rfl rfl (fun c_79 => ?_) (fun c_79 => ?_)
  rotate_left
  · exact absurd (by decide) (of_decide_eq_false c_79)
  refine ps_st (S' := (128, [(0, .ref m0), (1, .int (nI pc)), (2, .int 188)], [.int 188], M)) rfl rfl rfl ?_
  refine ps_st (S' := (130, [(0, .ref m0), (1, .int (nI pc)), (2, .int 188)], [.int 26, .int 188], M)) rfl rfl rfl ?_
  refine ps_if2 (S1 := (139, [(0, .ref m0), (1, .int (nI pc)), (2, .int 188)], [], M)) (S2 := (133, [(0, .ref m0), (1, .int (nI pc)), (2, .int 188)], [], M)) rfl rfl rfl (fun c_130 => ?_) (fun c_130 => ?_)
  · exact absurd (of_decide_eq_true c_130) (by decide)
  refine ps_st (S' := (134, [(0, .ref m0), (1, .int (nI pc)), (2, .int 188)], [.int 188], M)) rfl rfl rfl ?_
  refine ps_st (S' := (136, [(0, .ref m0), (1, .int (nI pc)), (2, .int 188)], [.int 45, .int 188], M)) rfl rfl rfl ?_
  refine ps_if2 (S1 := (151, [(0, .ref m0), (2, .int 188)], [], M)) (S2 := (139, [(0, .ref m0), (1, .int (nI pc)), (2, .int 188)], [], M)) rfl rfl rfl (fun c_136 => ?_) (fun c_136 => ?_)
  · exact absurd (of_decide_eq_true c_136) (by decide)
  refine ps_st (S' := (140, [(0, .ref m0), (1, .int (nI pc)), (2, .int 188)], [.int 188], M)) rfl rfl rfl ?_
  refine ps_st (S' := (142, [(0, .ref m0), (1, .int (nI pc)), (2, .int 188)], [.int 59, .int 188], M)) rfl rfl rfl ?_
  refine ps_if2 (S1 := (196, [(0, .ref m0), (1, .int (nI pc)), (2, .int 188)], [], M)) (S2 := (145, [(0, .ref m0), (1, .int (nI pc)), (2, .int 188)], [], M)) rfl rfl rfl (fun c_142 => ?_) (fun c_142 => ?_)
  · exact absurd (of_decide_eq_true c_142) (by decide)
  refine ps_st (S' := (146, [(0, .ref m0), (1, .int (nI pc)), (2, .int 188)], [.int 188], M)) rfl rfl rfl ?_
  refine ps_st (S' := (148, [(0, .ref m0), (1, .int (nI pc)), (2, .int 188)], [.int 78, .int 188], M)) rfl rfl rfl ?_
  refine ps_if2 (S1 := (196, [(0, .ref m0), (1, .int (nI pc)), (2, .int 188)], [], M)) (S2 := (151, [(0, .ref m0), (2, .int 188)], [], M)) rfl rfl rfl (fun c_148 => ?_) (fun c_148 => ?_)
  rotate_left
  · exact absurd (by decide) (of_decide_eq_false c_148)
  refine ps_st (S' := (197, [(0, .ref m0), (1, .int (nI pc)), (2, .int 188)], [.int 188], M)) rfl rfl rfl ?_
  refine ps_st (S' := (200, [(0, .ref m0), (1, .int (nI pc)), (2, .int 188)], [.int 132, .int 188], M)) rfl rfl rfl ?_
  refine ps_if2 (S1 := (216, [(0, .ref m0), (1, .int (nI pc)), (2, .int 188)], [], M)) (S2 := (203, [(0, .ref m0), (1, .int (nI pc)), (2, .int 188)], [], M)) rfl rfl rfl (fun c_200 => ?_) (fun c_200 => ?_)
  rotate_left
  · exact absurd (by decide) (of_decide_eq_false c_200)
  refine ps_st (S' := (217, [(0, .ref m0), (1, .int (nI pc)), (2, .int 188)], [.int 188], M)) rfl rfl rfl ?_
  refine ps_st (S' := (220, [(0, .ref m0), (1, .int (nI pc)), (2, .int 188)], [.int 196, .int 188], M)) rfl rfl rfl ?_
  refine ps_if2 (S1 := (296, [(0, .ref m0), (1, .int (nI pc)), (2, .int 188)], [], M)) (S2 := (223, [(0, .ref m0), (1, .int (nI pc)), (2, .int 188)], [], M)) rfl rfl rfl (fun c_220 => ?_) (fun c_220 => ?_)
  rotate_left
  · exact absurd (by decide) (of_decide_eq_false c_220)
  refine ps_st (S' := (297, [(0, .ref m0), (1, .int (nI pc)), (2, .int 188)], [.int 188], M)) rfl rfl rfl ?_
  refine ps_st (S' := (300, [(0, .ref m0), (1, .int (nI pc)), (2, .int 188)], [.int 188, .int 188], M)) rfl rfl rfl ?_
  refine ps_if2 (S1 := (332, [(0, .ref m0), (1, .int (nI pc)), (2, .int 188)], [], M)) (S2 := (303, [(0, .ref m0), (1, .int (nI pc)), (2, .int 188)], [], M)) rfl rfl rfl (fun c_300 => ?_) (fun c_300 => ?_)
  · exact absurd (of_decide_eq_true c_300) (by decide)
  refine ps_st (S' := (304, [(0, .ref m0), (1, .int (nI pc)), (2, .int 188)], [.ref m0], M)) rfl rfl rfl ?_
  refine ps_st (S' := (305, [(0, .ref m0), (1, .int (nI pc)), (2, .int 188)], [.int (nI pc), .ref m0], M)) rfl rfl rfl ?_
  refine ps_st (S' := (306, [(0, .ref m0), (1, .int (nI pc)), (2, .int 188)], [.int 1, .int (nI pc), .ref m0], M)) rfl rfl rfl ?_
  refine ps_st (S' := (307, [(0, .ref m0), (1, .int (nI pc)), (2, .int 188)], [.int ((nI pc) + 1), .ref m0], M)) rfl rfl rfl ?_
  rw [nI_add1 (p := pc) (k := 1) (x := 1) rfl (by omega)]
  show pl _ _ _ (_, [(0, .ref m0), (1, .int (nI pc)), (2, .int 188)], [.int (nI (pc + 1)), .ref m0], M) _
  refine pl_call (a := [.ref m0, .int (nI (pc + 1))]) (rest := []) rfl rfl rfl (rd_b1 (n := n) (f := f) (cb := cb) (p := (pc + 1)) hR hi77 hF (by omega)) (fun v1 M2 q3 => ?_)
  obtain ⟨rfl, rfl⟩ := q3
  show pl _ _ _ (310, [(0, .ref m0), (1, .int (nI pc)), (2, .int 188)], [.int (nI (by1 f (cb + (pc + 1))))], M) _
  show pl _ _ _ (_, [(0, .ref m0), (1, .int (nI pc)), (2, .int 188)], [.int (nI (by1 f (cb + pc + 1)))], M) _
  have hb_307 := by1_lt f (cb + pc + 1)
  refine ps_st (S' := (311, [(0, .ref m0), (1, .int (nI pc)), (2, .int 188)], [.int 4, .int (nI (by1 f (cb + pc + 1)))], M)) rfl rfl rfl ?_
  refine ps_if2 (S1 := (330, [], [], M)) (S2 := (314, [(0, .ref m0), (1, .int (nI pc)), (2, .int 188)], [], M)) rfl rfl rfl (fun c_311 => ?_) (fun c_311 => ?_)
  · have c_311 : (nI (by1 f (cb + pc + 1))) < 4 := of_decide_eq_true c_311
    have n_311 : by1 f (cb + pc + 1) < 4 := (lt_nI (p := by1 f (cb + pc + 1)) (n := 4) (Nat.lt_trans (by1_lt _ _) (by decide)) (by decide)).mp c_311
    refine ps_st (S' := (331, [], [.int 0], M)) rfl rfl rfl ?_
    exact ps_ret rfl rfl (⟨congrArg (fun x => some (Value.int (nI x))) (show 0 = if 4 ≤ by1 f (cb + pc + 1) ∧ by1 f (cb + pc + 1) ≤ 11 then 1 else 0 from by
        first | ((repeat first | rw [if_pos (by omega)] | rw [if_neg (by omega)]) <;> first | rfl | omega) | ((repeat' split) <;> first | rfl | (exfalso; omega) | omega)), rfl⟩)
  · have c_311 : ¬ ((nI (by1 f (cb + pc + 1))) < 4) := of_decide_eq_false c_311
    have n_311 : ¬ (by1 f (cb + pc + 1) < 4) := fun h9 => c_311 ((lt_nI (p := by1 f (cb + pc + 1)) (n := 4) (Nat.lt_trans (by1_lt _ _) (by decide)) (by decide)).mpr h9)
    refine ps_st (S' := (315, [(0, .ref m0), (1, .int (nI pc)), (2, .int 188)], [.ref m0], M)) rfl rfl rfl ?_
    refine ps_st (S' := (316, [(0, .ref m0), (1, .int (nI pc)), (2, .int 188)], [.int (nI pc), .ref m0], M)) rfl rfl rfl ?_
    refine ps_st (S' := (317, [(0, .ref m0), (1, .int (nI pc)), (2, .int 188)], [.int 1, .int (nI pc), .ref m0], M)) rfl rfl rfl ?_
    refine ps_st (S' := (318, [(0, .ref m0), (1, .int (nI pc)), (2, .int 188)], [.int ((nI pc) + 1), .ref m0], M)) rfl rfl rfl ?_
    rw [nI_add1 (p := pc) (k := 1) (x := 1) rfl (by omega)]
    show pl _ _ _ (_, [(0, .ref m0), (1, .int (nI pc)), (2, .int 188)], [.int (nI (pc + 1)), .ref m0], M) _
    refine pl_call (a := [.ref m0, .int (nI (pc + 1))]) (rest := []) rfl rfl rfl (rd_b1 (n := n) (f := f) (cb := cb) (p := (pc + 1)) hR hi77 hF (by omega)) (fun v4 M5 q6 => ?_)
    obtain ⟨rfl, rfl⟩ := q6
    show pl _ _ _ (321, [(0, .ref m0), (1, .int (nI pc)), (2, .int 188)], [.int (nI (by1 f (cb + (pc + 1))))], M) _
    show pl _ _ _ (_, [(0, .ref m0), (1, .int (nI pc)), (2, .int 188)], [.int (nI (by1 f (cb + pc + 1)))], M) _
    have hb_318 := by1_lt f (cb + pc + 1)
    refine ps_st (S' := (323, [(0, .ref m0), (1, .int (nI pc)), (2, .int 188)], [.int 11, .int (nI (by1 f (cb + pc + 1)))], M)) rfl rfl rfl ?_
    refine ps_if2 (S1 := (330, [], [], M)) (S2 := (326, [(0, .ref m0), (1, .int (nI pc)), (2, .int 188)], [], M)) rfl rfl rfl (fun c_323 => ?_) (fun c_323 => ?_)
    · have c_323 : 11 < (nI (by1 f (cb + pc + 1))) := of_decide_eq_true c_323
      have n_323 : 11 < by1 f (cb + pc + 1) := (lt_nI (p := 11) (n := by1 f (cb + pc + 1)) (by decide) (Nat.lt_trans (by1_lt _ _) (by decide))).mp c_323
      refine ps_st (S' := (331, [], [.int 0], M)) rfl rfl rfl ?_
      exact ps_ret rfl rfl (⟨congrArg (fun x => some (Value.int (nI x))) (show 0 = if 4 ≤ by1 f (cb + pc + 1) ∧ by1 f (cb + pc + 1) ≤ 11 then 1 else 0 from by
          first | ((repeat first | rw [if_pos (by omega)] | rw [if_neg (by omega)]) <;> first | rfl | omega) | ((repeat' split) <;> first | rfl | (exfalso; omega) | omega)), rfl⟩)
    · have c_323 : ¬ (11 < (nI (by1 f (cb + pc + 1)))) := of_decide_eq_false c_323
      have n_323 : ¬ (11 < by1 f (cb + pc + 1)) := fun h9 => c_323 ((lt_nI (p := 11) (n := by1 f (cb + pc + 1)) (by decide) (Nat.lt_trans (by1_lt _ _) (by decide))).mpr h9)
      refine ps_st (S' := (327, [(0, .ref m0), (1, .int (nI pc)), (2, .int 188)], [.int 1], M)) rfl rfl rfl ?_
      refine ps_st (S' := (331, [], [.int 1], M)) rfl rfl rfl ?_
      exact ps_ret rfl rfl (⟨congrArg (fun x => some (Value.int (nI x))) (show 1 = if 4 ≤ by1 f (cb + pc + 1) ∧ by1 f (cb + pc + 1) ≤ 11 then 1 else 0 from by
          first | ((repeat first | rw [if_pos (by omega)] | rw [if_neg (by omega)]) <;> first | rfl | omega) | ((repeat' split) <;> first | rfl | (exfalso; omega) | omega)), rfl⟩)
set_option maxHeartbeats 1000000 in
theorem rd_op18 {g : xe_G} {m0 : Nat} {q : Nat → Nat} {z : Nat × Nat} {I : rI} {R : rR} {M : mi_H} {n : Nat} {f : Nat → Int32} {tx : List (List Nat)} {cN : Nat} {A : Nat → Nat} {N mj : Nat} {E : List (Nat × Nat)} {cb ml s9 pc : Nat} (hR : RS g m0 q z I R M) (hi51 : I 51 = some 0) (hi52 : I 52 = some (nI N)) (hi53 : I 53 = some (nI mj)) (hi77 : I 77 = some (nI cb)) (hi79 : I 79 = some (nI ml)) (hi9 : I 9 = some (nI s9)) (hF : FK n f I R) (hY : SYT tx cN A I R) (hP : RPV f n E tx N I R) (hEP : EP f n E) (hN : N < 65536) (hmj : mj < 65536) (hml : ml < 65536) (hs9 : s9 < tx.length ∧ tx.getD s9 [] = ltx 14) (hCP : CP f n E) (hPF : PF f n E) (hin : cb + pc + 2 ≤ n) : pt (mT g) 228 [.ref m0, .int (nI pc), .int 18] M (fun v M' => (v = some (.int (nI (ld1N f n E mj (by1 f (cb + pc + 1)) (tg f E (by1 f (cb + pc + 1)))))) ∧ M = M')) := by
  refine pt_in (b := mb_228 g) rfl (fun kf => ?_)
  show pl (mT g) kf (mb_228 g).2 (0, [(0, .ref m0), (1, .int (nI pc)), (2, .int 18)], [], M) _
  have hn := hF.1
  have htl := hY.1.2.2.1
  refine ps_st (S' := (1, [(0, .ref m0), (1, .int (nI pc)), (2, .int 18)], [.int 18], M)) rfl rfl rfl ?_
  refine ps_st (S' := (4, [(0, .ref m0), (1, .int (nI pc)), (2, .int 18)], [.int 168, .int 18], M)) rfl rfl rfl ?_
  refine ps_if2 (S1 := (21, [(0, .ref m0), (1, .int (nI pc)), (2, .int 18)], [], M)) (S2 := (7, [(0, .ref m0), (1, .int (nI pc)), (2, .int 18)], [], M)) rfl rfl rfl (fun c_4 => ?_) (fun c_4 => ?_)
  · exact absurd (of_decide_eq_true c_4) (by decide)
  refine ps_st (S' := (8, [(0, .ref m0), (1, .int (nI pc)), (2, .int 18)], [.int 18], M)) rfl rfl rfl ?_
  refine ps_st (S' := (11, [(0, .ref m0), (1, .int (nI pc)), (2, .int 18)], [.int 169, .int 18], M)) rfl rfl rfl ?_
  refine ps_if2 (S1 := (21, [(0, .ref m0), (1, .int (nI pc)), (2, .int 18)], [], M)) (S2 := (14, [(0, .ref m0), (1, .int (nI pc)), (2, .int 18)], [], M)) rfl rfl rfl (fun c_11 => ?_) (fun c_11 => ?_)
  · exact absurd (of_decide_eq_true c_11) (by decide)
  refine ps_st (S' := (15, [(0, .ref m0), (1, .int (nI pc)), (2, .int 18)], [.int 18], M)) rfl rfl rfl ?_
  refine ps_st (S' := (18, [(0, .ref m0), (1, .int (nI pc)), (2, .int 18)], [.int 201, .int 18], M)) rfl rfl rfl ?_
  refine ps_if2 (S1 := (58, [(0, .ref m0), (1, .int (nI pc)), (2, .int 18)], [], M)) (S2 := (21, [(0, .ref m0), (1, .int (nI pc)), (2, .int 18)], [], M)) rfl rfl rfl (fun c_18 => ?_) (fun c_18 => ?_)
  rotate_left
  · exact absurd (by decide) (of_decide_eq_false c_18)
  refine ps_st (S' := (59, [(0, .ref m0), (1, .int (nI pc)), (2, .int 18)], [.int 18], M)) rfl rfl rfl ?_
  refine ps_st (S' := (61, [(0, .ref m0), (1, .int (nI pc)), (2, .int 18)], [.int 21, .int 18], M)) rfl rfl rfl ?_
  refine ps_if2 (S1 := (70, [(0, .ref m0), (1, .int (nI pc)), (2, .int 18)], [], M)) (S2 := (64, [(0, .ref m0), (1, .int (nI pc)), (2, .int 18)], [], M)) rfl rfl rfl (fun c_61 => ?_) (fun c_61 => ?_)
  rotate_left
  · exact absurd (by decide) (of_decide_eq_false c_61)
  refine ps_st (S' := (71, [(0, .ref m0), (1, .int (nI pc)), (2, .int 18)], [.int 18], M)) rfl rfl rfl ?_
  refine ps_st (S' := (73, [(0, .ref m0), (1, .int (nI pc)), (2, .int 18)], [.int 54, .int 18], M)) rfl rfl rfl ?_
  refine ps_if2 (S1 := (127, [(0, .ref m0), (1, .int (nI pc)), (2, .int 18)], [], M)) (S2 := (76, [(0, .ref m0), (1, .int (nI pc)), (2, .int 18)], [], M)) rfl rfl rfl (fun c_73 => ?_) (fun c_73 => ?_)
  rotate_left
  · exact absurd (by decide) (of_decide_eq_false c_73)
  refine ps_st (S' := (128, [(0, .ref m0), (1, .int (nI pc)), (2, .int 18)], [.int 18], M)) rfl rfl rfl ?_
  refine ps_st (S' := (130, [(0, .ref m0), (1, .int (nI pc)), (2, .int 18)], [.int 26, .int 18], M)) rfl rfl rfl ?_
  refine ps_if2 (S1 := (139, [(0, .ref m0), (1, .int (nI pc)), (2, .int 18)], [], M)) (S2 := (133, [(0, .ref m0), (1, .int (nI pc)), (2, .int 18)], [], M)) rfl rfl rfl (fun c_130 => ?_) (fun c_130 => ?_)
  rotate_left
  · exact absurd (by decide) (of_decide_eq_false c_130)
  refine ps_st (S' := (140, [(0, .ref m0), (1, .int (nI pc)), (2, .int 18)], [.int 18], M)) rfl rfl rfl ?_
  refine ps_st (S' := (142, [(0, .ref m0), (1, .int (nI pc)), (2, .int 18)], [.int 59, .int 18], M)) rfl rfl rfl ?_
  refine ps_if2 (S1 := (196, [(0, .ref m0), (1, .int (nI pc)), (2, .int 18)], [], M)) (S2 := (145, [(0, .ref m0), (1, .int (nI pc)), (2, .int 18)], [], M)) rfl rfl rfl (fun c_142 => ?_) (fun c_142 => ?_)
  rotate_left
  · exact absurd (by decide) (of_decide_eq_false c_142)
  refine ps_st (S' := (197, [(0, .ref m0), (1, .int (nI pc)), (2, .int 18)], [.int 18], M)) rfl rfl rfl ?_
  refine ps_st (S' := (200, [(0, .ref m0), (1, .int (nI pc)), (2, .int 18)], [.int 132, .int 18], M)) rfl rfl rfl ?_
  refine ps_if2 (S1 := (216, [(0, .ref m0), (1, .int (nI pc)), (2, .int 18)], [], M)) (S2 := (203, [(0, .ref m0), (1, .int (nI pc)), (2, .int 18)], [], M)) rfl rfl rfl (fun c_200 => ?_) (fun c_200 => ?_)
  rotate_left
  · exact absurd (by decide) (of_decide_eq_false c_200)
  refine ps_st (S' := (217, [(0, .ref m0), (1, .int (nI pc)), (2, .int 18)], [.int 18], M)) rfl rfl rfl ?_
  refine ps_st (S' := (220, [(0, .ref m0), (1, .int (nI pc)), (2, .int 18)], [.int 196, .int 18], M)) rfl rfl rfl ?_
  refine ps_if2 (S1 := (296, [(0, .ref m0), (1, .int (nI pc)), (2, .int 18)], [], M)) (S2 := (223, [(0, .ref m0), (1, .int (nI pc)), (2, .int 18)], [], M)) rfl rfl rfl (fun c_220 => ?_) (fun c_220 => ?_)
  rotate_left
  · exact absurd (by decide) (of_decide_eq_false c_220)
  refine ps_st (S' := (297, [(0, .ref m0), (1, .int (nI pc)), (2, .int 18)], [.int 18], M)) rfl rfl rfl ?_
  refine ps_st (S' := (300, [(0, .ref m0), (1, .int (nI pc)), (2, .int 18)], [.int 188, .int 18], M)) rfl rfl rfl ?_
  refine ps_if2 (S1 := (332, [(0, .ref m0), (1, .int (nI pc)), (2, .int 18)], [], M)) (S2 := (303, [(0, .ref m0), (1, .int (nI pc)), (2, .int 18)], [], M)) rfl rfl rfl (fun c_300 => ?_) (fun c_300 => ?_)
  rotate_left
  · exact absurd (by decide) (of_decide_eq_false c_300)
  refine ps_st (S' := (333, [(0, .ref m0), (1, .int (nI pc)), (2, .int 18)], [.int 18], M)) rfl rfl rfl ?_
  refine ps_st (S' := (335, [(0, .ref m0), (1, .int (nI pc)), (2, .int 18)], [.int 18, .int 18], M)) rfl rfl rfl ?_
  refine ps_if2 (S1 := (513, [(0, .ref m0), (1, .int (nI pc)), (2, .int 18)], [], M)) (S2 := (338, [(0, .ref m0), (1, .int (nI pc)), (2, .int 18)], [], M)) rfl rfl rfl (fun c_335 => ?_) (fun c_335 => ?_)
  · exact absurd (of_decide_eq_true c_335) (by decide)
  refine ps_st (S' := (339, [(0, .ref m0), (1, .int (nI pc)), (2, .int 18)], [.int 18], M)) rfl rfl rfl ?_
  refine ps_st (S' := (341, [(0, .ref m0), (1, .int (nI pc)), (2, .int 18)], [.int 20, .int 18], M)) rfl rfl rfl ?_
  refine ps_if2 (S1 := (513, [(0, .ref m0), (1, .int (nI pc)), (2, .int 18)], [], M)) (S2 := (344, [(0, .ref m0), (1, .int (nI pc)), (2, .int 18)], [], M)) rfl rfl rfl (fun c_341 => ?_) (fun c_341 => ?_)
  · exact absurd (of_decide_eq_true c_341) (by decide)
  refine ps_st (S' := (345, [(0, .ref m0), (1, .int (nI pc)), (2, .int 18)], [.int 18], M)) rfl rfl rfl ?_
  refine ps_st (S' := (347, [(0, .ref m0), (1, .int (nI pc)), (2, .int 18)], [.int 18, .int 18], M)) rfl rfl rfl ?_
  refine ps_if2 (S1 := (360, [(0, .ref m0), (1, .int (nI pc)), (2, .int 18)], [], M)) (S2 := (350, [(0, .ref m0), (1, .int (nI pc)), (2, .int 18)], [], M)) rfl rfl rfl (fun c_347 => ?_) (fun c_347 => ?_)
  · exact absurd (of_decide_eq_true c_347) (by decide)
  refine ps_st (S' := (351, [(0, .ref m0), (1, .int (nI pc)), (2, .int 18)], [.ref m0], M)) rfl rfl rfl ?_
  refine ps_st (S' := (352, [(0, .ref m0), (1, .int (nI pc)), (2, .int 18)], [.int (nI pc), .ref m0], M)) rfl rfl rfl ?_
  refine ps_st (S' := (353, [(0, .ref m0), (1, .int (nI pc)), (2, .int 18)], [.int 1, .int (nI pc), .ref m0], M)) rfl rfl rfl ?_
  refine ps_st (S' := (354, [(0, .ref m0), (1, .int (nI pc)), (2, .int 18)], [.int ((nI pc) + 1), .ref m0], M)) rfl rfl rfl ?_
  rw [nI_add1 (p := pc) (k := 1) (x := 1) rfl (by omega)]
  show pl _ _ _ (_, [(0, .ref m0), (1, .int (nI pc)), (2, .int 18)], [.int (nI (pc + 1)), .ref m0], M) _
  refine pl_call (a := [.ref m0, .int (nI (pc + 1))]) (rest := []) rfl rfl rfl (rd_b1 (n := n) (f := f) (cb := cb) (p := (pc + 1)) hR hi77 hF (by omega)) (fun v1 M2 q3 => ?_)
  obtain ⟨rfl, rfl⟩ := q3
  show pl _ _ _ (357, [(0, .ref m0), (1, .int (nI pc)), (2, .int 18)], [.int (nI (by1 f (cb + (pc + 1))))], M) _
  show pl _ _ _ (_, [(0, .ref m0), (1, .int (nI pc)), (2, .int 18)], [.int (nI (by1 f (cb + pc + 1)))], M) _
  have hb_354 := by1_lt f (cb + pc + 1)
  refine ps_st (S' := (367, [(0, .ref m0), (2, .int 18)], [.int (nI (by1 f (cb + pc + 1)))], M)) rfl rfl rfl ?_
  refine ps_st (S' := (368, [(3, .int (nI (by1 f (cb + pc + 1)))), (0, .ref m0), (2, .int 18)], [], M)) rfl rfl rfl ?_
  refine ps_st (S' := (369, [(3, .int (nI (by1 f (cb + pc + 1)))), (0, .ref m0), (2, .int 18)], [.ref m0], M)) rfl rfl rfl ?_
  refine ps_st (S' := (370, [(3, .int (nI (by1 f (cb + pc + 1)))), (0, .ref m0), (2, .int 18)], [.int (nI (by1 f (cb + pc + 1))), .ref m0], M)) rfl rfl rfl ?_
  refine pl_call (a := [.ref m0, .int (nI (by1 f (cb + pc + 1)))]) (rest := []) rfl rfl rfl (rd_tag (n := n) (f := f) (tx := tx) (cN := cN) (A := A) (N := N) (mj := mj) (E := E) (k := (by1 f (cb + pc + 1))) hR hi51 hi52 hi53 hF hY hP (hEP) (hN) (hmj) (by omega)) (fun v4 M5 q6 => ?_)
  obtain ⟨rfl, rfl⟩ := q6
  show pl _ _ _ (373, [(3, .int (nI (by1 f (cb + pc + 1)))), (0, .ref m0), (2, .int 18)], [.int (nI (tg f E (by1 f (cb + pc + 1))))], M) _
  have htg_370 := tg_lt f E (by1 f (cb + pc + 1))
  refine ps_st (S' := (375, [(4, .int (nI (tg f E (by1 f (cb + pc + 1))))), (3, .int (nI (by1 f (cb + pc + 1)))), (0, .ref m0), (2, .int 18)], [], M)) rfl rfl rfl ?_
  refine ps_st (S' := (376, [(4, .int (nI (tg f E (by1 f (cb + pc + 1))))), (3, .int (nI (by1 f (cb + pc + 1)))), (0, .ref m0), (2, .int 18)], [.int 18], M)) rfl rfl rfl ?_
  refine ps_st (S' := (378, [(4, .int (nI (tg f E (by1 f (cb + pc + 1))))), (3, .int (nI (by1 f (cb + pc + 1)))), (0, .ref m0), (2, .int 18)], [.int 20, .int 18], M)) rfl rfl rfl ?_
  refine ps_if2 (S1 := (420, [(4, .int (nI (tg f E (by1 f (cb + pc + 1))))), (3, .int (nI (by1 f (cb + pc + 1)))), (0, .ref m0), (2, .int 18)], [], M)) (S2 := (381, [(4, .int (nI (tg f E (by1 f (cb + pc + 1))))), (3, .int (nI (by1 f (cb + pc + 1)))), (0, .ref m0), (2, .int 18)], [], M)) rfl rfl rfl (fun c_378 => ?_) (fun c_378 => ?_)
  rotate_left
  · exact absurd (by decide) (of_decide_eq_false c_378)
  refine ps_st (S' := (422, [(4, .int (nI (tg f E (by1 f (cb + pc + 1))))), (3, .int (nI (by1 f (cb + pc + 1)))), (0, .ref m0), (2, .int 18)], [.int (nI (tg f E (by1 f (cb + pc + 1))))], M)) rfl rfl rfl ?_
  refine ps_st (S' := (423, [(4, .int (nI (tg f E (by1 f (cb + pc + 1))))), (3, .int (nI (by1 f (cb + pc + 1)))), (0, .ref m0), (2, .int 18)], [.int 3, .int (nI (tg f E (by1 f (cb + pc + 1))))], M)) rfl rfl rfl ?_
  refine ps_if2 (S1 := (507, [], [], M)) (S2 := (426, [(4, .int (nI (tg f E (by1 f (cb + pc + 1))))), (3, .int (nI (by1 f (cb + pc + 1)))), (0, .ref m0), (2, .int 18)], [], M)) rfl rfl rfl (fun c_423 => ?_) (fun c_423 => ?_)
  · have c_423 : (nI (tg f E (by1 f (cb + pc + 1)))) = 3 := of_decide_eq_true c_423
    have n_423 : tg f E (by1 f (cb + pc + 1)) = 3 := (eq_nI (p := tg f E (by1 f (cb + pc + 1))) (n := 3) (Nat.lt_trans (tg_lt _ _ _) (by decide)) (by decide)).mp c_423
    refine ps_st (S' := (508, [], [.int 1], M)) rfl rfl rfl ?_
    refine ps_st (S' := (512, [], [.int 1], M)) rfl rfl rfl ?_
    exact ps_ret rfl rfl (⟨congrArg (fun x => some (Value.int (nI x))) (show 1 = ld1N f n E mj (by1 f (cb + pc + 1)) (tg f E (by1 f (cb + pc + 1))) from by
        unfold ld1N
        repeat first | rw [if_pos (by omega)] | rw [if_neg (by omega)]), rfl⟩)
  · have c_423 : ¬ ((nI (tg f E (by1 f (cb + pc + 1)))) = 3) := of_decide_eq_false c_423
    have n_423 : ¬ (tg f E (by1 f (cb + pc + 1)) = 3) := fun h9 => c_423 ((eq_nI (p := tg f E (by1 f (cb + pc + 1))) (n := 3) (Nat.lt_trans (tg_lt _ _ _) (by decide)) (by decide)).mpr h9)
    refine ps_st (S' := (428, [(4, .int (nI (tg f E (by1 f (cb + pc + 1))))), (3, .int (nI (by1 f (cb + pc + 1)))), (0, .ref m0), (2, .int 18)], [.int (nI (tg f E (by1 f (cb + pc + 1))))], M)) rfl rfl rfl ?_
    refine ps_st (S' := (429, [(4, .int (nI (tg f E (by1 f (cb + pc + 1))))), (3, .int (nI (by1 f (cb + pc + 1)))), (0, .ref m0), (2, .int 18)], [.int 4, .int (nI (tg f E (by1 f (cb + pc + 1))))], M)) rfl rfl rfl ?_
    refine ps_if2 (S1 := (507, [], [], M)) (S2 := (432, [(4, .int (nI (tg f E (by1 f (cb + pc + 1))))), (3, .int (nI (by1 f (cb + pc + 1)))), (0, .ref m0), (2, .int 18)], [], M)) rfl rfl rfl (fun c_429 => ?_) (fun c_429 => ?_)
    · have c_429 : (nI (tg f E (by1 f (cb + pc + 1)))) = 4 := of_decide_eq_true c_429
      have n_429 : tg f E (by1 f (cb + pc + 1)) = 4 := (eq_nI (p := tg f E (by1 f (cb + pc + 1))) (n := 4) (Nat.lt_trans (tg_lt _ _ _) (by decide)) (by decide)).mp c_429
      refine ps_st (S' := (508, [], [.int 1], M)) rfl rfl rfl ?_
      refine ps_st (S' := (512, [], [.int 1], M)) rfl rfl rfl ?_
      exact ps_ret rfl rfl (⟨congrArg (fun x => some (Value.int (nI x))) (show 1 = ld1N f n E mj (by1 f (cb + pc + 1)) (tg f E (by1 f (cb + pc + 1))) from by
          unfold ld1N
          repeat first | rw [if_pos (by omega)] | rw [if_neg (by omega)]), rfl⟩)
    · have c_429 : ¬ ((nI (tg f E (by1 f (cb + pc + 1)))) = 4) := of_decide_eq_false c_429
      have n_429 : ¬ (tg f E (by1 f (cb + pc + 1)) = 4) := fun h9 => c_429 ((eq_nI (p := tg f E (by1 f (cb + pc + 1))) (n := 4) (Nat.lt_trans (tg_lt _ _ _) (by decide)) (by decide)).mpr h9)
      refine ps_st (S' := (434, [(4, .int (nI (tg f E (by1 f (cb + pc + 1))))), (3, .int (nI (by1 f (cb + pc + 1)))), (0, .ref m0), (2, .int 18)], [.int (nI (tg f E (by1 f (cb + pc + 1))))], M)) rfl rfl rfl ?_
      refine ps_st (S' := (436, [(4, .int (nI (tg f E (by1 f (cb + pc + 1))))), (3, .int (nI (by1 f (cb + pc + 1)))), (0, .ref m0), (2, .int 18)], [.int 8, .int (nI (tg f E (by1 f (cb + pc + 1))))], M)) rfl rfl rfl ?_
      refine ps_if2 (S1 := (507, [], [], M)) (S2 := (439, [(4, .int (nI (tg f E (by1 f (cb + pc + 1))))), (3, .int (nI (by1 f (cb + pc + 1)))), (0, .ref m0), (2, .int 18)], [], M)) rfl rfl rfl (fun c_436 => ?_) (fun c_436 => ?_)
      · have c_436 : (nI (tg f E (by1 f (cb + pc + 1)))) = 8 := of_decide_eq_true c_436
        have n_436 : tg f E (by1 f (cb + pc + 1)) = 8 := (eq_nI (p := tg f E (by1 f (cb + pc + 1))) (n := 8) (Nat.lt_trans (tg_lt _ _ _) (by decide)) (by decide)).mp c_436
        refine ps_st (S' := (508, [], [.int 1], M)) rfl rfl rfl ?_
        refine ps_st (S' := (512, [], [.int 1], M)) rfl rfl rfl ?_
        exact ps_ret rfl rfl (⟨congrArg (fun x => some (Value.int (nI x))) (show 1 = ld1N f n E mj (by1 f (cb + pc + 1)) (tg f E (by1 f (cb + pc + 1))) from by
            unfold ld1N
            repeat first | rw [if_pos (by omega)] | rw [if_neg (by omega)]), rfl⟩)
      · have c_436 : ¬ ((nI (tg f E (by1 f (cb + pc + 1)))) = 8) := of_decide_eq_false c_436
        have n_436 : ¬ (tg f E (by1 f (cb + pc + 1)) = 8) := fun h9 => c_436 ((eq_nI (p := tg f E (by1 f (cb + pc + 1))) (n := 8) (Nat.lt_trans (tg_lt _ _ _) (by decide)) (by decide)).mpr h9)
        refine ps_st (S' := (441, [(4, .int (nI (tg f E (by1 f (cb + pc + 1))))), (3, .int (nI (by1 f (cb + pc + 1)))), (0, .ref m0), (2, .int 18)], [.int (nI (tg f E (by1 f (cb + pc + 1))))], M)) rfl rfl rfl ?_
        refine ps_st (S' := (443, [(4, .int (nI (tg f E (by1 f (cb + pc + 1))))), (3, .int (nI (by1 f (cb + pc + 1)))), (0, .ref m0), (2, .int 18)], [.int 7, .int (nI (tg f E (by1 f (cb + pc + 1))))], M)) rfl rfl rfl ?_
        refine ps_if2 (S1 := (455, [(0, .ref m0), (3, .int (nI (by1 f (cb + pc + 1)))), (4, .int (nI (tg f E (by1 f (cb + pc + 1)))))], [], M)) (S2 := (446, [(4, .int (nI (tg f E (by1 f (cb + pc + 1))))), (3, .int (nI (by1 f (cb + pc + 1)))), (0, .ref m0), (2, .int 18)], [], M)) rfl rfl rfl (fun c_443 => ?_) (fun c_443 => ?_)
        · have c_443 : ¬ (nI (tg f E (by1 f (cb + pc + 1)))) = 7 := of_decide_eq_true c_443
          have n_443 : ¬ (tg f E (by1 f (cb + pc + 1)) = 7) := fun h9 => c_443 ((eq_nI (p := tg f E (by1 f (cb + pc + 1))) (n := 7) (Nat.lt_trans (tg_lt _ _ _) (by decide)) (by decide)).mpr h9)
          refine ps_st (S' := (457, [(0, .ref m0), (3, .int (nI (by1 f (cb + pc + 1)))), (4, .int (nI (tg f E (by1 f (cb + pc + 1)))))], [.int (nI (tg f E (by1 f (cb + pc + 1))))], M)) rfl rfl rfl ?_
          refine ps_st (S' := (459, [(0, .ref m0), (3, .int (nI (by1 f (cb + pc + 1)))), (4, .int (nI (tg f E (by1 f (cb + pc + 1)))))], [.int 15, .int (nI (tg f E (by1 f (cb + pc + 1))))], M)) rfl rfl rfl ?_
          refine ps_if2 (S1 := (469, [(0, .ref m0), (3, .int (nI (by1 f (cb + pc + 1)))), (4, .int (nI (tg f E (by1 f (cb + pc + 1)))))], [], M)) (S2 := (462, [(0, .ref m0), (3, .int (nI (by1 f (cb + pc + 1)))), (4, .int (nI (tg f E (by1 f (cb + pc + 1)))))], [], M)) rfl rfl rfl (fun c_459 => ?_) (fun c_459 => ?_)
          · have c_459 : (nI (tg f E (by1 f (cb + pc + 1)))) = 15 := of_decide_eq_true c_459
            have n_459 : tg f E (by1 f (cb + pc + 1)) = 15 := (eq_nI (p := tg f E (by1 f (cb + pc + 1))) (n := 15) (Nat.lt_trans (tg_lt _ _ _) (by decide)) (by decide)).mp c_459
            refine ps_st (S' := (470, [(0, .ref m0), (3, .int (nI (by1 f (cb + pc + 1)))), (4, .int (nI (tg f E (by1 f (cb + pc + 1)))))], [.ref m0], M)) rfl rfl rfl ?_
            refine pr_int (j := 53) (S' := (473, [(0, .ref m0), (3, .int (nI (by1 f (cb + pc + 1)))), (4, .int (nI (tg f E (by1 f (cb + pc + 1)))))], [.int (nI mj)], M)) rfl hR rfl hi53 rfl ?_
            refine ps_st (S' := (475, [(0, .ref m0), (3, .int (nI (by1 f (cb + pc + 1)))), (4, .int (nI (tg f E (by1 f (cb + pc + 1)))))], [.int 51, .int (nI mj)], M)) rfl rfl rfl ?_
            refine ps_if2 (S1 := (507, [], [], M)) (S2 := (478, [(0, .ref m0), (3, .int (nI (by1 f (cb + pc + 1)))), (4, .int (nI (tg f E (by1 f (cb + pc + 1)))))], [], M)) rfl rfl rfl (fun c_475 => ?_) (fun c_475 => ?_)
            · have c_475 : 51 ≤ (nI mj) := of_decide_eq_true c_475
              have n_475 : 51 ≤ mj := (le_nI (p := 51) (n := mj) (by decide) (by omega)).mp c_475
              refine ps_st (S' := (508, [], [.int 1], M)) rfl rfl rfl ?_
              refine ps_st (S' := (512, [], [.int 1], M)) rfl rfl rfl ?_
              exact ps_ret rfl rfl (⟨congrArg (fun x => some (Value.int (nI x))) (show 1 = ld1N f n E mj (by1 f (cb + pc + 1)) (tg f E (by1 f (cb + pc + 1))) from by
                  unfold ld1N
                  repeat first | rw [if_pos (by omega)] | rw [if_neg (by omega)]), rfl⟩)
            · have c_475 : ¬ (51 ≤ (nI mj)) := of_decide_eq_false c_475
              have n_475 : ¬ (51 ≤ mj) := fun h9 => c_475 ((le_nI (p := 51) (n := mj) (by decide) (by omega)).mpr h9)
              refine ps_st (S' := (480, [(0, .ref m0), (3, .int (nI (by1 f (cb + pc + 1)))), (4, .int (nI (tg f E (by1 f (cb + pc + 1)))))], [.int (nI (tg f E (by1 f (cb + pc + 1))))], M)) rfl rfl rfl ?_
              refine ps_st (S' := (482, [(0, .ref m0), (3, .int (nI (by1 f (cb + pc + 1)))), (4, .int (nI (tg f E (by1 f (cb + pc + 1)))))], [.int 17, .int (nI (tg f E (by1 f (cb + pc + 1))))], M)) rfl rfl rfl ?_
              refine ps_if2 (S1 := (511, [], [], M)) (S2 := (485, [(0, .ref m0), (3, .int (nI (by1 f (cb + pc + 1)))), (4, .int (nI (tg f E (by1 f (cb + pc + 1)))))], [], M)) rfl rfl rfl (fun c_482 => ?_) (fun c_482 => ?_)
              rotate_left
              · exact absurd (show ¬ ((nI (tg f E (by1 f (cb + pc + 1)))) = 17) from fun h9 => absurd ((eq_nI (p := tg f E (by1 f (cb + pc + 1))) (n := 17) (Nat.lt_trans (tg_lt _ _ _) (by decide)) (by decide)).mp h9) (by omega)) (of_decide_eq_false c_482)
              refine ps_st (S' := (512, [], [.int 0], M)) rfl rfl rfl ?_
              exact ps_ret rfl rfl (⟨congrArg (fun x => some (Value.int (nI x))) (show 0 = ld1N f n E mj (by1 f (cb + pc + 1)) (tg f E (by1 f (cb + pc + 1))) from by
                  unfold ld1N
                  repeat first | rw [if_pos (by omega)] | rw [if_neg (by omega)]), rfl⟩)
          · have c_459 : ¬ ((nI (tg f E (by1 f (cb + pc + 1)))) = 15) := of_decide_eq_false c_459
            have n_459 : ¬ (tg f E (by1 f (cb + pc + 1)) = 15) := fun h9 => c_459 ((eq_nI (p := tg f E (by1 f (cb + pc + 1))) (n := 15) (Nat.lt_trans (tg_lt _ _ _) (by decide)) (by decide)).mpr h9)
            refine ps_st (S' := (464, [(0, .ref m0), (3, .int (nI (by1 f (cb + pc + 1)))), (4, .int (nI (tg f E (by1 f (cb + pc + 1)))))], [.int (nI (tg f E (by1 f (cb + pc + 1))))], M)) rfl rfl rfl ?_
            refine ps_st (S' := (466, [(0, .ref m0), (3, .int (nI (by1 f (cb + pc + 1)))), (4, .int (nI (tg f E (by1 f (cb + pc + 1)))))], [.int 16, .int (nI (tg f E (by1 f (cb + pc + 1))))], M)) rfl rfl rfl ?_
            refine ps_if2 (S1 := (478, [(0, .ref m0), (3, .int (nI (by1 f (cb + pc + 1)))), (4, .int (nI (tg f E (by1 f (cb + pc + 1)))))], [], M)) (S2 := (469, [(0, .ref m0), (3, .int (nI (by1 f (cb + pc + 1)))), (4, .int (nI (tg f E (by1 f (cb + pc + 1)))))], [], M)) rfl rfl rfl (fun c_466 => ?_) (fun c_466 => ?_)
            · have c_466 : ¬ (nI (tg f E (by1 f (cb + pc + 1)))) = 16 := of_decide_eq_true c_466
              have n_466 : ¬ (tg f E (by1 f (cb + pc + 1)) = 16) := fun h9 => c_466 ((eq_nI (p := tg f E (by1 f (cb + pc + 1))) (n := 16) (Nat.lt_trans (tg_lt _ _ _) (by decide)) (by decide)).mpr h9)
              refine ps_st (S' := (480, [(0, .ref m0), (3, .int (nI (by1 f (cb + pc + 1)))), (4, .int (nI (tg f E (by1 f (cb + pc + 1)))))], [.int (nI (tg f E (by1 f (cb + pc + 1))))], M)) rfl rfl rfl ?_
              refine ps_st (S' := (482, [(0, .ref m0), (3, .int (nI (by1 f (cb + pc + 1)))), (4, .int (nI (tg f E (by1 f (cb + pc + 1)))))], [.int 17, .int (nI (tg f E (by1 f (cb + pc + 1))))], M)) rfl rfl rfl ?_
              refine ps_if2 (S1 := (511, [], [], M)) (S2 := (485, [(0, .ref m0), (3, .int (nI (by1 f (cb + pc + 1)))), (4, .int (nI (tg f E (by1 f (cb + pc + 1)))))], [], M)) rfl rfl rfl (fun c_482 => ?_) (fun c_482 => ?_)
              · have c_482 : ¬ (nI (tg f E (by1 f (cb + pc + 1)))) = 17 := of_decide_eq_true c_482
                have n_482 : ¬ (tg f E (by1 f (cb + pc + 1)) = 17) := fun h9 => c_482 ((eq_nI (p := tg f E (by1 f (cb + pc + 1))) (n := 17) (Nat.lt_trans (tg_lt _ _ _) (by decide)) (by decide)).mpr h9)
                refine ps_st (S' := (512, [], [.int 0], M)) rfl rfl rfl ?_
                exact ps_ret rfl rfl (⟨congrArg (fun x => some (Value.int (nI x))) (show 0 = ld1N f n E mj (by1 f (cb + pc + 1)) (tg f E (by1 f (cb + pc + 1))) from by
                    unfold ld1N
                    repeat first | rw [if_pos (by omega)] | rw [if_neg (by omega)]), rfl⟩)
              · have c_482 : ¬ (¬ (nI (tg f E (by1 f (cb + pc + 1)))) = 17) := of_decide_eq_false c_482
                have n_482 : tg f E (by1 f (cb + pc + 1)) = 17 := (eq_nI (p := tg f E (by1 f (cb + pc + 1))) (n := 17) (Nat.lt_trans (tg_lt _ _ _) (by decide)) (by decide)).mp (Decidable.not_not.mp c_482)
                refine ps_st (S' := (486, [(0, .ref m0), (3, .int (nI (by1 f (cb + pc + 1)))), (4, .int (nI (tg f E (by1 f (cb + pc + 1)))))], [.ref m0], M)) rfl rfl rfl ?_
                refine pr_int (j := 53) (S' := (489, [(0, .ref m0), (3, .int (nI (by1 f (cb + pc + 1)))), (4, .int (nI (tg f E (by1 f (cb + pc + 1)))))], [.int (nI mj)], M)) rfl hR rfl hi53 rfl ?_
                refine ps_st (S' := (491, [(0, .ref m0), (3, .int (nI (by1 f (cb + pc + 1)))), (4, .int (nI (tg f E (by1 f (cb + pc + 1)))))], [.int 55, .int (nI mj)], M)) rfl rfl rfl ?_
                refine ps_if2 (S1 := (511, [], [], M)) (S2 := (494, [(0, .ref m0), (3, .int (nI (by1 f (cb + pc + 1)))), (4, .int (nI (tg f E (by1 f (cb + pc + 1)))))], [], M)) rfl rfl rfl (fun c_491 => ?_) (fun c_491 => ?_)
                · have c_491 : (nI mj) < 55 := of_decide_eq_true c_491
                  have n_491 : mj < 55 := (lt_nI (p := mj) (n := 55) (by omega) (by decide)).mp c_491
                  refine ps_st (S' := (512, [], [.int 0], M)) rfl rfl rfl ?_
                  exact ps_ret rfl rfl (⟨congrArg (fun x => some (Value.int (nI x))) (show 0 = ld1N f n E mj (by1 f (cb + pc + 1)) (tg f E (by1 f (cb + pc + 1))) from by
                      unfold ld1N
                      repeat first | rw [if_pos (by omega)] | rw [if_neg (by omega)]), rfl⟩)
                · have c_491 : ¬ ((nI mj) < 55) := of_decide_eq_false c_491
                  have n_491 : ¬ (mj < 55) := fun h9 => c_491 ((lt_nI (p := mj) (n := 55) (by omega) (by decide)).mpr h9)
                  refine ps_st (S' := (495, [(0, .ref m0), (3, .int (nI (by1 f (cb + pc + 1)))), (4, .int (nI (tg f E (by1 f (cb + pc + 1)))))], [.ref m0], M)) rfl rfl rfl ?_
                  refine ps_st (S' := (496, [(0, .ref m0), (3, .int (nI (by1 f (cb + pc + 1)))), (4, .int (nI (tg f E (by1 f (cb + pc + 1)))))], [.ref m0, .ref m0], M)) rfl rfl rfl ?_
                  refine ps_st (S' := (497, [(0, .ref m0), (3, .int (nI (by1 f (cb + pc + 1)))), (4, .int (nI (tg f E (by1 f (cb + pc + 1)))))], [.int (nI (by1 f (cb + pc + 1))), .ref m0, .ref m0], M)) rfl rfl rfl ?_
                  refine pl_call (a := [.ref m0, .int (nI (by1 f (cb + pc + 1)))]) (rest := [.ref m0]) rfl rfl rfl (rd_descOf (n := n) (f := f) (tx := tx) (cN := cN) (A := A) (N := N) (mj := mj) (E := E) (k := (by1 f (cb + pc + 1))) hR hi51 hi52 hi53 hF hY hP (hEP) (hN) (hmj) (by omega) ((hPF (by1 f (cb + pc + 1))).1 (by omega) |>.1) ((hPF (by1 f (cb + pc + 1))).1 (by omega) |>.2.2)) (fun v7 M8 q9 => ?_)
                  obtain ⟨s10, q497_s, rfl, rfl⟩ := q9
                  show pl _ _ _ (500, [(0, .ref m0), (3, .int (nI (by1 f (cb + pc + 1)))), (4, .int (nI (tg f E (by1 f (cb + pc + 1)))))], [.int (nI s10), .ref m0], M) _
                  have hsl_497 := q497_s.1
                  have htl_497 := hY.1.2.2.1
                  refine ps_st (S' := (501, [(0, .ref m0), (3, .int (nI (by1 f (cb + pc + 1)))), (4, .int (nI (tg f E (by1 f (cb + pc + 1)))))], [.int 0, .int (nI s10), .ref m0], M)) rfl rfl rfl ?_
                  have hfl_501 := (hPF (by1 f (cb + pc + 1))).2.1 (by omega)
                  have hf0_501 := (fld_sh hfl_501).2
                  refine pl_call (a := [.ref m0, .int (nI s10), .int 0]) (rest := []) rfl rfl rfl (rd_wide (tx := tx) (cN := cN) (A := A) (s := s10) (l := (tX f n E (se f E (se f E (by1 f (cb + pc + 1)))))) (k := 0) hR hY (q497_s) (hf0_501)) (fun v11 M12 q13 => ?_)
                  obtain ⟨rfl, rfl⟩ := q13
                  show pl _ _ _ (504, [(0, .ref m0), (3, .int (nI (by1 f (cb + pc + 1)))), (4, .int (nI (tg f E (by1 f (cb + pc + 1)))))], [.int (nI (wdN ((tX f n E (se f E (se f E (by1 f (cb + pc + 1))))).getD 0 0)))], M) _
                  have hwd_501 := le1_wd ((tX f n E (se f E (se f E (by1 f (cb + pc + 1))))).getD 0 0)
                  have hd1_501 := dc_1 ((hPF (by1 f (cb + pc + 1))).1 (by omega)).2.2 hfl_501
                  have hd2_501 := dc_2 ((hPF (by1 f (cb + pc + 1))).1 (by omega)).2.2 hfl_501
                  refine ps_if (S1 := (511, [], [], M)) (S2 := (507, [], [], M)) rfl rfl rfl (fun c_504 => ?_) (fun c_504 => ?_)
                  · have c_504 : ¬ (nI (wdN ((tX f n E (se f E (se f E (by1 f (cb + pc + 1))))).getD 0 0))) = 0 := of_decide_eq_true c_504
                    have n_504 : ¬ (wdN ((tX f n E (se f E (se f E (by1 f (cb + pc + 1))))).getD 0 0) = 0) := fun h9 => c_504 ((eq_nI (p := wdN ((tX f n E (se f E (se f E (by1 f (cb + pc + 1))))).getD 0 0)) (n := 0) (Nat.lt_trans (le1_wd _) (by decide)) (by decide)).mpr h9)
                    refine ps_st (S' := (512, [], [.int 0], M)) rfl rfl rfl ?_
                    exact ps_ret rfl rfl (⟨congrArg (fun x => some (Value.int (nI x))) (show 0 = ld1N f n E mj (by1 f (cb + pc + 1)) (tg f E (by1 f (cb + pc + 1))) from by
                        unfold ld1N
                        repeat first | rw [if_pos (by omega)] | rw [if_neg (by omega)]
                        rw [if_neg (fun h9 => absurd (hd1_501.mp h9.2) n_504)]), rfl⟩)
                  · have c_504 : ¬ (¬ (nI (wdN ((tX f n E (se f E (se f E (by1 f (cb + pc + 1))))).getD 0 0))) = 0) := of_decide_eq_false c_504
                    have n_504 : wdN ((tX f n E (se f E (se f E (by1 f (cb + pc + 1))))).getD 0 0) = 0 := (eq_nI (p := wdN ((tX f n E (se f E (se f E (by1 f (cb + pc + 1))))).getD 0 0)) (n := 0) (Nat.lt_trans (le1_wd _) (by decide)) (by decide)).mp (Decidable.not_not.mp c_504)
                    refine ps_st (S' := (508, [], [.int 1], M)) rfl rfl rfl ?_
                    refine ps_st (S' := (512, [], [.int 1], M)) rfl rfl rfl ?_
                    exact ps_ret rfl rfl (⟨congrArg (fun x => some (Value.int (nI x))) (show 1 = ld1N f n E mj (by1 f (cb + pc + 1)) (tg f E (by1 f (cb + pc + 1))) from by
                        unfold ld1N
                        repeat first | rw [if_pos (by omega)] | rw [if_neg (by omega)]
                        rw [if_pos ⟨by omega, hd1_501.mpr n_504⟩]), rfl⟩)
            · have c_466 : ¬ (¬ (nI (tg f E (by1 f (cb + pc + 1)))) = 16) := of_decide_eq_false c_466
              have n_466 : tg f E (by1 f (cb + pc + 1)) = 16 := (eq_nI (p := tg f E (by1 f (cb + pc + 1))) (n := 16) (Nat.lt_trans (tg_lt _ _ _) (by decide)) (by decide)).mp (Decidable.not_not.mp c_466)
              refine ps_st (S' := (470, [(0, .ref m0), (3, .int (nI (by1 f (cb + pc + 1)))), (4, .int (nI (tg f E (by1 f (cb + pc + 1)))))], [.ref m0], M)) rfl rfl rfl ?_
              refine pr_int (j := 53) (S' := (473, [(0, .ref m0), (3, .int (nI (by1 f (cb + pc + 1)))), (4, .int (nI (tg f E (by1 f (cb + pc + 1)))))], [.int (nI mj)], M)) rfl hR rfl hi53 rfl ?_
              refine ps_st (S' := (475, [(0, .ref m0), (3, .int (nI (by1 f (cb + pc + 1)))), (4, .int (nI (tg f E (by1 f (cb + pc + 1)))))], [.int 51, .int (nI mj)], M)) rfl rfl rfl ?_
              refine ps_if2 (S1 := (507, [], [], M)) (S2 := (478, [(0, .ref m0), (3, .int (nI (by1 f (cb + pc + 1)))), (4, .int (nI (tg f E (by1 f (cb + pc + 1)))))], [], M)) rfl rfl rfl (fun c_475 => ?_) (fun c_475 => ?_)
              · have c_475 : 51 ≤ (nI mj) := of_decide_eq_true c_475
                have n_475 : 51 ≤ mj := (le_nI (p := 51) (n := mj) (by decide) (by omega)).mp c_475
                refine ps_st (S' := (508, [], [.int 1], M)) rfl rfl rfl ?_
                refine ps_st (S' := (512, [], [.int 1], M)) rfl rfl rfl ?_
                exact ps_ret rfl rfl (⟨congrArg (fun x => some (Value.int (nI x))) (show 1 = ld1N f n E mj (by1 f (cb + pc + 1)) (tg f E (by1 f (cb + pc + 1))) from by
                    unfold ld1N
                    repeat first | rw [if_pos (by omega)] | rw [if_neg (by omega)]), rfl⟩)
              · have c_475 : ¬ (51 ≤ (nI mj)) := of_decide_eq_false c_475
                have n_475 : ¬ (51 ≤ mj) := fun h9 => c_475 ((le_nI (p := 51) (n := mj) (by decide) (by omega)).mpr h9)
                refine ps_st (S' := (480, [(0, .ref m0), (3, .int (nI (by1 f (cb + pc + 1)))), (4, .int (nI (tg f E (by1 f (cb + pc + 1)))))], [.int (nI (tg f E (by1 f (cb + pc + 1))))], M)) rfl rfl rfl ?_
                refine ps_st (S' := (482, [(0, .ref m0), (3, .int (nI (by1 f (cb + pc + 1)))), (4, .int (nI (tg f E (by1 f (cb + pc + 1)))))], [.int 17, .int (nI (tg f E (by1 f (cb + pc + 1))))], M)) rfl rfl rfl ?_
                refine ps_if2 (S1 := (511, [], [], M)) (S2 := (485, [(0, .ref m0), (3, .int (nI (by1 f (cb + pc + 1)))), (4, .int (nI (tg f E (by1 f (cb + pc + 1)))))], [], M)) rfl rfl rfl (fun c_482 => ?_) (fun c_482 => ?_)
                rotate_left
                · exact absurd (show ¬ ((nI (tg f E (by1 f (cb + pc + 1)))) = 17) from fun h9 => absurd ((eq_nI (p := tg f E (by1 f (cb + pc + 1))) (n := 17) (Nat.lt_trans (tg_lt _ _ _) (by decide)) (by decide)).mp h9) (by omega)) (of_decide_eq_false c_482)
                refine ps_st (S' := (512, [], [.int 0], M)) rfl rfl rfl ?_
                exact ps_ret rfl rfl (⟨congrArg (fun x => some (Value.int (nI x))) (show 0 = ld1N f n E mj (by1 f (cb + pc + 1)) (tg f E (by1 f (cb + pc + 1))) from by
                    unfold ld1N
                    repeat first | rw [if_pos (by omega)] | rw [if_neg (by omega)]), rfl⟩)
        · have c_443 : ¬ (¬ (nI (tg f E (by1 f (cb + pc + 1)))) = 7) := of_decide_eq_false c_443
          have n_443 : tg f E (by1 f (cb + pc + 1)) = 7 := (eq_nI (p := tg f E (by1 f (cb + pc + 1))) (n := 7) (Nat.lt_trans (tg_lt _ _ _) (by decide)) (by decide)).mp (Decidable.not_not.mp c_443)
          refine ps_st (S' := (447, [(4, .int (nI (tg f E (by1 f (cb + pc + 1))))), (3, .int (nI (by1 f (cb + pc + 1)))), (0, .ref m0), (2, .int 18)], [.ref m0], M)) rfl rfl rfl ?_
          refine pr_int (j := 53) (S' := (450, [(4, .int (nI (tg f E (by1 f (cb + pc + 1))))), (3, .int (nI (by1 f (cb + pc + 1)))), (0, .ref m0), (2, .int 18)], [.int (nI mj)], M)) rfl hR rfl hi53 rfl ?_
          refine ps_st (S' := (452, [(4, .int (nI (tg f E (by1 f (cb + pc + 1))))), (3, .int (nI (by1 f (cb + pc + 1)))), (0, .ref m0), (2, .int 18)], [.int 49, .int (nI mj)], M)) rfl rfl rfl ?_
          refine ps_if2 (S1 := (507, [], [], M)) (S2 := (455, [(0, .ref m0), (3, .int (nI (by1 f (cb + pc + 1)))), (4, .int (nI (tg f E (by1 f (cb + pc + 1)))))], [], M)) rfl rfl rfl (fun c_452 => ?_) (fun c_452 => ?_)
          · have c_452 : 49 ≤ (nI mj) := of_decide_eq_true c_452
            have n_452 : 49 ≤ mj := (le_nI (p := 49) (n := mj) (by decide) (by omega)).mp c_452
            refine ps_st (S' := (508, [], [.int 1], M)) rfl rfl rfl ?_
            refine ps_st (S' := (512, [], [.int 1], M)) rfl rfl rfl ?_
            exact ps_ret rfl rfl (⟨congrArg (fun x => some (Value.int (nI x))) (show 1 = ld1N f n E mj (by1 f (cb + pc + 1)) (tg f E (by1 f (cb + pc + 1))) from by
                unfold ld1N
                repeat first | rw [if_pos (by omega)] | rw [if_neg (by omega)]), rfl⟩)
          · have c_452 : ¬ (49 ≤ (nI mj)) := of_decide_eq_false c_452
            have n_452 : ¬ (49 ≤ mj) := fun h9 => c_452 ((le_nI (p := 49) (n := mj) (by decide) (by omega)).mpr h9)
            refine ps_st (S' := (457, [(0, .ref m0), (3, .int (nI (by1 f (cb + pc + 1)))), (4, .int (nI (tg f E (by1 f (cb + pc + 1)))))], [.int (nI (tg f E (by1 f (cb + pc + 1))))], M)) rfl rfl rfl ?_
            refine ps_st (S' := (459, [(0, .ref m0), (3, .int (nI (by1 f (cb + pc + 1)))), (4, .int (nI (tg f E (by1 f (cb + pc + 1)))))], [.int 15, .int (nI (tg f E (by1 f (cb + pc + 1))))], M)) rfl rfl rfl ?_
            refine ps_if2 (S1 := (469, [(0, .ref m0), (3, .int (nI (by1 f (cb + pc + 1)))), (4, .int (nI (tg f E (by1 f (cb + pc + 1)))))], [], M)) (S2 := (462, [(0, .ref m0), (3, .int (nI (by1 f (cb + pc + 1)))), (4, .int (nI (tg f E (by1 f (cb + pc + 1)))))], [], M)) rfl rfl rfl (fun c_459 => ?_) (fun c_459 => ?_)
            · exact absurd (of_decide_eq_true c_459) (show ¬ ((nI (tg f E (by1 f (cb + pc + 1)))) = 15) from fun h9 => absurd ((eq_nI (p := tg f E (by1 f (cb + pc + 1))) (n := 15) (Nat.lt_trans (tg_lt _ _ _) (by decide)) (by decide)).mp h9) (by omega))
            refine ps_st (S' := (464, [(0, .ref m0), (3, .int (nI (by1 f (cb + pc + 1)))), (4, .int (nI (tg f E (by1 f (cb + pc + 1)))))], [.int (nI (tg f E (by1 f (cb + pc + 1))))], M)) rfl rfl rfl ?_
            refine ps_st (S' := (466, [(0, .ref m0), (3, .int (nI (by1 f (cb + pc + 1)))), (4, .int (nI (tg f E (by1 f (cb + pc + 1)))))], [.int 16, .int (nI (tg f E (by1 f (cb + pc + 1))))], M)) rfl rfl rfl ?_
            refine ps_if2 (S1 := (478, [(0, .ref m0), (3, .int (nI (by1 f (cb + pc + 1)))), (4, .int (nI (tg f E (by1 f (cb + pc + 1)))))], [], M)) (S2 := (469, [(0, .ref m0), (3, .int (nI (by1 f (cb + pc + 1)))), (4, .int (nI (tg f E (by1 f (cb + pc + 1)))))], [], M)) rfl rfl rfl (fun c_466 => ?_) (fun c_466 => ?_)
            rotate_left
            · exact absurd (show ¬ ((nI (tg f E (by1 f (cb + pc + 1)))) = 16) from fun h9 => absurd ((eq_nI (p := tg f E (by1 f (cb + pc + 1))) (n := 16) (Nat.lt_trans (tg_lt _ _ _) (by decide)) (by decide)).mp h9) (by omega)) (of_decide_eq_false c_466)
            refine ps_st (S' := (480, [(0, .ref m0), (3, .int (nI (by1 f (cb + pc + 1)))), (4, .int (nI (tg f E (by1 f (cb + pc + 1)))))], [.int (nI (tg f E (by1 f (cb + pc + 1))))], M)) rfl rfl rfl ?_
            refine ps_st (S' := (482, [(0, .ref m0), (3, .int (nI (by1 f (cb + pc + 1)))), (4, .int (nI (tg f E (by1 f (cb + pc + 1)))))], [.int 17, .int (nI (tg f E (by1 f (cb + pc + 1))))], M)) rfl rfl rfl ?_
            refine ps_if2 (S1 := (511, [], [], M)) (S2 := (485, [(0, .ref m0), (3, .int (nI (by1 f (cb + pc + 1)))), (4, .int (nI (tg f E (by1 f (cb + pc + 1)))))], [], M)) rfl rfl rfl (fun c_482 => ?_) (fun c_482 => ?_)
            rotate_left
            · exact absurd (show ¬ ((nI (tg f E (by1 f (cb + pc + 1)))) = 17) from fun h9 => absurd ((eq_nI (p := tg f E (by1 f (cb + pc + 1))) (n := 17) (Nat.lt_trans (tg_lt _ _ _) (by decide)) (by decide)).mp h9) (by omega)) (of_decide_eq_false c_482)
            refine ps_st (S' := (512, [], [.int 0], M)) rfl rfl rfl ?_
            exact ps_ret rfl rfl (⟨congrArg (fun x => some (Value.int (nI x))) (show 0 = ld1N f n E mj (by1 f (cb + pc + 1)) (tg f E (by1 f (cb + pc + 1))) from by
                unfold ld1N
                repeat first | rw [if_pos (by omega)] | rw [if_neg (by omega)]), rfl⟩)
set_option maxHeartbeats 1000000 in
theorem rd_op19 {g : xe_G} {m0 : Nat} {q : Nat → Nat} {z : Nat × Nat} {I : rI} {R : rR} {M : mi_H} {n : Nat} {f : Nat → Int32} {tx : List (List Nat)} {cN : Nat} {A : Nat → Nat} {N mj : Nat} {E : List (Nat × Nat)} {cb ml s9 pc : Nat} (hR : RS g m0 q z I R M) (hi51 : I 51 = some 0) (hi52 : I 52 = some (nI N)) (hi53 : I 53 = some (nI mj)) (hi77 : I 77 = some (nI cb)) (hi79 : I 79 = some (nI ml)) (hi9 : I 9 = some (nI s9)) (hF : FK n f I R) (hY : SYT tx cN A I R) (hP : RPV f n E tx N I R) (hEP : EP f n E) (hN : N < 65536) (hmj : mj < 65536) (hml : ml < 65536) (hs9 : s9 < tx.length ∧ tx.getD s9 [] = ltx 14) (hCP : CP f n E) (hPF : PF f n E) (hin : cb + pc + 3 ≤ n) : pt (mT g) 228 [.ref m0, .int (nI pc), .int 19] M (fun v M' => (v = some (.int (nI (ld1N f n E mj (by2 f (cb + pc + 1)) (tg f E (by2 f (cb + pc + 1)))))) ∧ M = M')) := by
  refine pt_in (b := mb_228 g) rfl (fun kf => ?_)
  show pl (mT g) kf (mb_228 g).2 (0, [(0, .ref m0), (1, .int (nI pc)), (2, .int 19)], [], M) _
  have hn := hF.1
  have htl := hY.1.2.2.1
  refine ps_st (S' := (1, [(0, .ref m0), (1, .int (nI pc)), (2, .int 19)], [.int 19], M)) rfl rfl rfl ?_
  refine ps_st (S' := (4, [(0, .ref m0), (1, .int (nI pc)), (2, .int 19)], [.int 168, .int 19], M)) rfl rfl rfl ?_
  refine ps_if2 (S1 := (21, [(0, .ref m0), (1, .int (nI pc)), (2, .int 19)], [], M)) (S2 := (7, [(0, .ref m0), (1, .int (nI pc)), (2, .int 19)], [], M)) rfl rfl rfl (fun c_4 => ?_) (fun c_4 => ?_)
  · exact absurd (of_decide_eq_true c_4) (by decide)
  refine ps_st (S' := (8, [(0, .ref m0), (1, .int (nI pc)), (2, .int 19)], [.int 19], M)) rfl rfl rfl ?_
  refine ps_st (S' := (11, [(0, .ref m0), (1, .int (nI pc)), (2, .int 19)], [.int 169, .int 19], M)) rfl rfl rfl ?_
  refine ps_if2 (S1 := (21, [(0, .ref m0), (1, .int (nI pc)), (2, .int 19)], [], M)) (S2 := (14, [(0, .ref m0), (1, .int (nI pc)), (2, .int 19)], [], M)) rfl rfl rfl (fun c_11 => ?_) (fun c_11 => ?_)
  · exact absurd (of_decide_eq_true c_11) (by decide)
  refine ps_st (S' := (15, [(0, .ref m0), (1, .int (nI pc)), (2, .int 19)], [.int 19], M)) rfl rfl rfl ?_
  refine ps_st (S' := (18, [(0, .ref m0), (1, .int (nI pc)), (2, .int 19)], [.int 201, .int 19], M)) rfl rfl rfl ?_
  refine ps_if2 (S1 := (58, [(0, .ref m0), (1, .int (nI pc)), (2, .int 19)], [], M)) (S2 := (21, [(0, .ref m0), (1, .int (nI pc)), (2, .int 19)], [], M)) rfl rfl rfl (fun c_18 => ?_) (fun c_18 => ?_)
  rotate_left
  · exact absurd (by decide) (of_decide_eq_false c_18)
  refine ps_st (S' := (59, [(0, .ref m0), (1, .int (nI pc)), (2, .int 19)], [.int 19], M)) rfl rfl rfl ?_
  refine ps_st (S' := (61, [(0, .ref m0), (1, .int (nI pc)), (2, .int 19)], [.int 21, .int 19], M)) rfl rfl rfl ?_
  refine ps_if2 (S1 := (70, [(0, .ref m0), (1, .int (nI pc)), (2, .int 19)], [], M)) (S2 := (64, [(0, .ref m0), (1, .int (nI pc)), (2, .int 19)], [], M)) rfl rfl rfl (fun c_61 => ?_) (fun c_61 => ?_)
  rotate_left
  · exact absurd (by decide) (of_decide_eq_false c_61)
  refine ps_st (S' := (71, [(0, .ref m0), (1, .int (nI pc)), (2, .int 19)], [.int 19], M)) rfl rfl rfl ?_
  refine ps_st (S' := (73, [(0, .ref m0), (1, .int (nI pc)), (2, .int 19)], [.int 54, .int 19], M)) rfl rfl rfl ?_
  refine ps_if2 (S1 := (127, [(0, .ref m0), (1, .int (nI pc)), (2, .int 19)], [], M)) (S2 := (76, [(0, .ref m0), (1, .int (nI pc)), (2, .int 19)], [], M)) rfl rfl rfl (fun c_73 => ?_) (fun c_73 => ?_)
  rotate_left
  · exact absurd (by decide) (of_decide_eq_false c_73)
  refine ps_st (S' := (128, [(0, .ref m0), (1, .int (nI pc)), (2, .int 19)], [.int 19], M)) rfl rfl rfl ?_
  refine ps_st (S' := (130, [(0, .ref m0), (1, .int (nI pc)), (2, .int 19)], [.int 26, .int 19], M)) rfl rfl rfl ?_
  refine ps_if2 (S1 := (139, [(0, .ref m0), (1, .int (nI pc)), (2, .int 19)], [], M)) (S2 := (133, [(0, .ref m0), (1, .int (nI pc)), (2, .int 19)], [], M)) rfl rfl rfl (fun c_130 => ?_) (fun c_130 => ?_)
  rotate_left
  · exact absurd (by decide) (of_decide_eq_false c_130)
  refine ps_st (S' := (140, [(0, .ref m0), (1, .int (nI pc)), (2, .int 19)], [.int 19], M)) rfl rfl rfl ?_
  refine ps_st (S' := (142, [(0, .ref m0), (1, .int (nI pc)), (2, .int 19)], [.int 59, .int 19], M)) rfl rfl rfl ?_
  refine ps_if2 (S1 := (196, [(0, .ref m0), (1, .int (nI pc)), (2, .int 19)], [], M)) (S2 := (145, [(0, .ref m0), (1, .int (nI pc)), (2, .int 19)], [], M)) rfl rfl rfl (fun c_142 => ?_) (fun c_142 => ?_)
  rotate_left
  · exact absurd (by decide) (of_decide_eq_false c_142)
  refine ps_st (S' := (197, [(0, .ref m0), (1, .int (nI pc)), (2, .int 19)], [.int 19], M)) rfl rfl rfl ?_
  refine ps_st (S' := (200, [(0, .ref m0), (1, .int (nI pc)), (2, .int 19)], [.int 132, .int 19], M)) rfl rfl rfl ?_
  refine ps_if2 (S1 := (216, [(0, .ref m0), (1, .int (nI pc)), (2, .int 19)], [], M)) (S2 := (203, [(0, .ref m0), (1, .int (nI pc)), (2, .int 19)], [], M)) rfl rfl rfl (fun c_200 => ?_) (fun c_200 => ?_)
  rotate_left
  · exact absurd (by decide) (of_decide_eq_false c_200)
  refine ps_st (S' := (217, [(0, .ref m0), (1, .int (nI pc)), (2, .int 19)], [.int 19], M)) rfl rfl rfl ?_
  refine ps_st (S' := (220, [(0, .ref m0), (1, .int (nI pc)), (2, .int 19)], [.int 196, .int 19], M)) rfl rfl rfl ?_
  refine ps_if2 (S1 := (296, [(0, .ref m0), (1, .int (nI pc)), (2, .int 19)], [], M)) (S2 := (223, [(0, .ref m0), (1, .int (nI pc)), (2, .int 19)], [], M)) rfl rfl rfl (fun c_220 => ?_) (fun c_220 => ?_)
  rotate_left
  · exact absurd (by decide) (of_decide_eq_false c_220)
  refine ps_st (S' := (297, [(0, .ref m0), (1, .int (nI pc)), (2, .int 19)], [.int 19], M)) rfl rfl rfl ?_
  refine ps_st (S' := (300, [(0, .ref m0), (1, .int (nI pc)), (2, .int 19)], [.int 188, .int 19], M)) rfl rfl rfl ?_
  refine ps_if2 (S1 := (332, [(0, .ref m0), (1, .int (nI pc)), (2, .int 19)], [], M)) (S2 := (303, [(0, .ref m0), (1, .int (nI pc)), (2, .int 19)], [], M)) rfl rfl rfl (fun c_300 => ?_) (fun c_300 => ?_)
  rotate_left
  · exact absurd (by decide) (of_decide_eq_false c_300)
  refine ps_st (S' := (333, [(0, .ref m0), (1, .int (nI pc)), (2, .int 19)], [.int 19], M)) rfl rfl rfl ?_
  refine ps_st (S' := (335, [(0, .ref m0), (1, .int (nI pc)), (2, .int 19)], [.int 18, .int 19], M)) rfl rfl rfl ?_
  refine ps_if2 (S1 := (513, [(0, .ref m0), (1, .int (nI pc)), (2, .int 19)], [], M)) (S2 := (338, [(0, .ref m0), (1, .int (nI pc)), (2, .int 19)], [], M)) rfl rfl rfl (fun c_335 => ?_) (fun c_335 => ?_)
  · exact absurd (of_decide_eq_true c_335) (by decide)
  refine ps_st (S' := (339, [(0, .ref m0), (1, .int (nI pc)), (2, .int 19)], [.int 19], M)) rfl rfl rfl ?_
  refine ps_st (S' := (341, [(0, .ref m0), (1, .int (nI pc)), (2, .int 19)], [.int 20, .int 19], M)) rfl rfl rfl ?_
  refine ps_if2 (S1 := (513, [(0, .ref m0), (1, .int (nI pc)), (2, .int 19)], [], M)) (S2 := (344, [(0, .ref m0), (1, .int (nI pc)), (2, .int 19)], [], M)) rfl rfl rfl (fun c_341 => ?_) (fun c_341 => ?_)
  · exact absurd (of_decide_eq_true c_341) (by decide)
  refine ps_st (S' := (345, [(0, .ref m0), (1, .int (nI pc)), (2, .int 19)], [.int 19], M)) rfl rfl rfl ?_
  refine ps_st (S' := (347, [(0, .ref m0), (1, .int (nI pc)), (2, .int 19)], [.int 18, .int 19], M)) rfl rfl rfl ?_
  refine ps_if2 (S1 := (360, [(0, .ref m0), (1, .int (nI pc)), (2, .int 19)], [], M)) (S2 := (350, [(0, .ref m0), (1, .int (nI pc)), (2, .int 19)], [], M)) rfl rfl rfl (fun c_347 => ?_) (fun c_347 => ?_)
  rotate_left
  · exact absurd (by decide) (of_decide_eq_false c_347)
  refine ps_st (S' := (361, [(0, .ref m0), (1, .int (nI pc)), (2, .int 19)], [.ref m0], M)) rfl rfl rfl ?_
  refine ps_st (S' := (362, [(0, .ref m0), (1, .int (nI pc)), (2, .int 19)], [.int (nI pc), .ref m0], M)) rfl rfl rfl ?_
  refine ps_st (S' := (363, [(0, .ref m0), (1, .int (nI pc)), (2, .int 19)], [.int 1, .int (nI pc), .ref m0], M)) rfl rfl rfl ?_
  refine ps_st (S' := (364, [(0, .ref m0), (1, .int (nI pc)), (2, .int 19)], [.int ((nI pc) + 1), .ref m0], M)) rfl rfl rfl ?_
  rw [nI_add1 (p := pc) (k := 1) (x := 1) rfl (by omega)]
  show pl _ _ _ (_, [(0, .ref m0), (1, .int (nI pc)), (2, .int 19)], [.int (nI (pc + 1)), .ref m0], M) _
  refine pl_call (a := [.ref m0, .int (nI (pc + 1))]) (rest := []) rfl rfl rfl (rd_b2 (n := n) (f := f) (cb := cb) (p := (pc + 1)) hR hi77 hF (by omega)) (fun v1 M2 q3 => ?_)
  obtain ⟨rfl, rfl⟩ := q3
  show pl _ _ _ (367, [(0, .ref m0), (2, .int 19)], [.int (nI (by2 f (cb + (pc + 1))))], M) _
  show pl _ _ _ (_, [(0, .ref m0), (2, .int 19)], [.int (nI (by2 f (cb + pc + 1)))], M) _
  have hb_364 := by2_lt f (cb + pc + 1)
  refine ps_st (S' := (368, [(3, .int (nI (by2 f (cb + pc + 1)))), (0, .ref m0), (2, .int 19)], [], M)) rfl rfl rfl ?_
  refine ps_st (S' := (369, [(3, .int (nI (by2 f (cb + pc + 1)))), (0, .ref m0), (2, .int 19)], [.ref m0], M)) rfl rfl rfl ?_
  refine ps_st (S' := (370, [(3, .int (nI (by2 f (cb + pc + 1)))), (0, .ref m0), (2, .int 19)], [.int (nI (by2 f (cb + pc + 1))), .ref m0], M)) rfl rfl rfl ?_
  refine pl_call (a := [.ref m0, .int (nI (by2 f (cb + pc + 1)))]) (rest := []) rfl rfl rfl (rd_tag (n := n) (f := f) (tx := tx) (cN := cN) (A := A) (N := N) (mj := mj) (E := E) (k := (by2 f (cb + pc + 1))) hR hi51 hi52 hi53 hF hY hP (hEP) (hN) (hmj) (by2_lt _ _)) (fun v4 M5 q6 => ?_)
  obtain ⟨rfl, rfl⟩ := q6
  show pl _ _ _ (373, [(3, .int (nI (by2 f (cb + pc + 1)))), (0, .ref m0), (2, .int 19)], [.int (nI (tg f E (by2 f (cb + pc + 1))))], M) _
  have htg_370 := tg_lt f E (by2 f (cb + pc + 1))
  refine ps_st (S' := (375, [(4, .int (nI (tg f E (by2 f (cb + pc + 1))))), (3, .int (nI (by2 f (cb + pc + 1)))), (0, .ref m0), (2, .int 19)], [], M)) rfl rfl rfl ?_
  refine ps_st (S' := (376, [(4, .int (nI (tg f E (by2 f (cb + pc + 1))))), (3, .int (nI (by2 f (cb + pc + 1)))), (0, .ref m0), (2, .int 19)], [.int 19], M)) rfl rfl rfl ?_
  refine ps_st (S' := (378, [(4, .int (nI (tg f E (by2 f (cb + pc + 1))))), (3, .int (nI (by2 f (cb + pc + 1)))), (0, .ref m0), (2, .int 19)], [.int 20, .int 19], M)) rfl rfl rfl ?_
  refine ps_if2 (S1 := (420, [(4, .int (nI (tg f E (by2 f (cb + pc + 1))))), (3, .int (nI (by2 f (cb + pc + 1)))), (0, .ref m0), (2, .int 19)], [], M)) (S2 := (381, [(4, .int (nI (tg f E (by2 f (cb + pc + 1))))), (3, .int (nI (by2 f (cb + pc + 1)))), (0, .ref m0), (2, .int 19)], [], M)) rfl rfl rfl (fun c_378 => ?_) (fun c_378 => ?_)
  rotate_left
  · exact absurd (by decide) (of_decide_eq_false c_378)
  refine ps_st (S' := (422, [(4, .int (nI (tg f E (by2 f (cb + pc + 1))))), (3, .int (nI (by2 f (cb + pc + 1)))), (0, .ref m0), (2, .int 19)], [.int (nI (tg f E (by2 f (cb + pc + 1))))], M)) rfl rfl rfl ?_
  refine ps_st (S' := (423, [(4, .int (nI (tg f E (by2 f (cb + pc + 1))))), (3, .int (nI (by2 f (cb + pc + 1)))), (0, .ref m0), (2, .int 19)], [.int 3, .int (nI (tg f E (by2 f (cb + pc + 1))))], M)) rfl rfl rfl ?_
  refine ps_if2 (S1 := (507, [], [], M)) (S2 := (426, [(4, .int (nI (tg f E (by2 f (cb + pc + 1))))), (3, .int (nI (by2 f (cb + pc + 1)))), (0, .ref m0), (2, .int 19)], [], M)) rfl rfl rfl (fun c_423 => ?_) (fun c_423 => ?_)
  · have c_423 : (nI (tg f E (by2 f (cb + pc + 1)))) = 3 := of_decide_eq_true c_423
    have n_423 : tg f E (by2 f (cb + pc + 1)) = 3 := (eq_nI (p := tg f E (by2 f (cb + pc + 1))) (n := 3) (Nat.lt_trans (tg_lt _ _ _) (by decide)) (by decide)).mp c_423
    refine ps_st (S' := (508, [], [.int 1], M)) rfl rfl rfl ?_
    refine ps_st (S' := (512, [], [.int 1], M)) rfl rfl rfl ?_
    exact ps_ret rfl rfl (⟨congrArg (fun x => some (Value.int (nI x))) (show 1 = ld1N f n E mj (by2 f (cb + pc + 1)) (tg f E (by2 f (cb + pc + 1))) from by
        unfold ld1N
        repeat first | rw [if_pos (by omega)] | rw [if_neg (by omega)]), rfl⟩)
  · have c_423 : ¬ ((nI (tg f E (by2 f (cb + pc + 1)))) = 3) := of_decide_eq_false c_423
    have n_423 : ¬ (tg f E (by2 f (cb + pc + 1)) = 3) := fun h9 => c_423 ((eq_nI (p := tg f E (by2 f (cb + pc + 1))) (n := 3) (Nat.lt_trans (tg_lt _ _ _) (by decide)) (by decide)).mpr h9)
    refine ps_st (S' := (428, [(4, .int (nI (tg f E (by2 f (cb + pc + 1))))), (3, .int (nI (by2 f (cb + pc + 1)))), (0, .ref m0), (2, .int 19)], [.int (nI (tg f E (by2 f (cb + pc + 1))))], M)) rfl rfl rfl ?_
    refine ps_st (S' := (429, [(4, .int (nI (tg f E (by2 f (cb + pc + 1))))), (3, .int (nI (by2 f (cb + pc + 1)))), (0, .ref m0), (2, .int 19)], [.int 4, .int (nI (tg f E (by2 f (cb + pc + 1))))], M)) rfl rfl rfl ?_
    refine ps_if2 (S1 := (507, [], [], M)) (S2 := (432, [(4, .int (nI (tg f E (by2 f (cb + pc + 1))))), (3, .int (nI (by2 f (cb + pc + 1)))), (0, .ref m0), (2, .int 19)], [], M)) rfl rfl rfl (fun c_429 => ?_) (fun c_429 => ?_)
    · have c_429 : (nI (tg f E (by2 f (cb + pc + 1)))) = 4 := of_decide_eq_true c_429
      have n_429 : tg f E (by2 f (cb + pc + 1)) = 4 := (eq_nI (p := tg f E (by2 f (cb + pc + 1))) (n := 4) (Nat.lt_trans (tg_lt _ _ _) (by decide)) (by decide)).mp c_429
      refine ps_st (S' := (508, [], [.int 1], M)) rfl rfl rfl ?_
      refine ps_st (S' := (512, [], [.int 1], M)) rfl rfl rfl ?_
      exact ps_ret rfl rfl (⟨congrArg (fun x => some (Value.int (nI x))) (show 1 = ld1N f n E mj (by2 f (cb + pc + 1)) (tg f E (by2 f (cb + pc + 1))) from by
          unfold ld1N
          repeat first | rw [if_pos (by omega)] | rw [if_neg (by omega)]), rfl⟩)
    · have c_429 : ¬ ((nI (tg f E (by2 f (cb + pc + 1)))) = 4) := of_decide_eq_false c_429
      have n_429 : ¬ (tg f E (by2 f (cb + pc + 1)) = 4) := fun h9 => c_429 ((eq_nI (p := tg f E (by2 f (cb + pc + 1))) (n := 4) (Nat.lt_trans (tg_lt _ _ _) (by decide)) (by decide)).mpr h9)
      refine ps_st (S' := (434, [(4, .int (nI (tg f E (by2 f (cb + pc + 1))))), (3, .int (nI (by2 f (cb + pc + 1)))), (0, .ref m0), (2, .int 19)], [.int (nI (tg f E (by2 f (cb + pc + 1))))], M)) rfl rfl rfl ?_
      refine ps_st (S' := (436, [(4, .int (nI (tg f E (by2 f (cb + pc + 1))))), (3, .int (nI (by2 f (cb + pc + 1)))), (0, .ref m0), (2, .int 19)], [.int 8, .int (nI (tg f E (by2 f (cb + pc + 1))))], M)) rfl rfl rfl ?_
      refine ps_if2 (S1 := (507, [], [], M)) (S2 := (439, [(4, .int (nI (tg f E (by2 f (cb + pc + 1))))), (3, .int (nI (by2 f (cb + pc + 1)))), (0, .ref m0), (2, .int 19)], [], M)) rfl rfl rfl (fun c_436 => ?_) (fun c_436 => ?_)
      · have c_436 : (nI (tg f E (by2 f (cb + pc + 1)))) = 8 := of_decide_eq_true c_436
        have n_436 : tg f E (by2 f (cb + pc + 1)) = 8 := (eq_nI (p := tg f E (by2 f (cb + pc + 1))) (n := 8) (Nat.lt_trans (tg_lt _ _ _) (by decide)) (by decide)).mp c_436
        refine ps_st (S' := (508, [], [.int 1], M)) rfl rfl rfl ?_
        refine ps_st (S' := (512, [], [.int 1], M)) rfl rfl rfl ?_
        exact ps_ret rfl rfl (⟨congrArg (fun x => some (Value.int (nI x))) (show 1 = ld1N f n E mj (by2 f (cb + pc + 1)) (tg f E (by2 f (cb + pc + 1))) from by
            unfold ld1N
            repeat first | rw [if_pos (by omega)] | rw [if_neg (by omega)]), rfl⟩)
      · have c_436 : ¬ ((nI (tg f E (by2 f (cb + pc + 1)))) = 8) := of_decide_eq_false c_436
        have n_436 : ¬ (tg f E (by2 f (cb + pc + 1)) = 8) := fun h9 => c_436 ((eq_nI (p := tg f E (by2 f (cb + pc + 1))) (n := 8) (Nat.lt_trans (tg_lt _ _ _) (by decide)) (by decide)).mpr h9)
        refine ps_st (S' := (441, [(4, .int (nI (tg f E (by2 f (cb + pc + 1))))), (3, .int (nI (by2 f (cb + pc + 1)))), (0, .ref m0), (2, .int 19)], [.int (nI (tg f E (by2 f (cb + pc + 1))))], M)) rfl rfl rfl ?_
        refine ps_st (S' := (443, [(4, .int (nI (tg f E (by2 f (cb + pc + 1))))), (3, .int (nI (by2 f (cb + pc + 1)))), (0, .ref m0), (2, .int 19)], [.int 7, .int (nI (tg f E (by2 f (cb + pc + 1))))], M)) rfl rfl rfl ?_
        refine ps_if2 (S1 := (455, [(0, .ref m0), (3, .int (nI (by2 f (cb + pc + 1)))), (4, .int (nI (tg f E (by2 f (cb + pc + 1)))))], [], M)) (S2 := (446, [(4, .int (nI (tg f E (by2 f (cb + pc + 1))))), (3, .int (nI (by2 f (cb + pc + 1)))), (0, .ref m0), (2, .int 19)], [], M)) rfl rfl rfl (fun c_443 => ?_) (fun c_443 => ?_)
        · have c_443 : ¬ (nI (tg f E (by2 f (cb + pc + 1)))) = 7 := of_decide_eq_true c_443
          have n_443 : ¬ (tg f E (by2 f (cb + pc + 1)) = 7) := fun h9 => c_443 ((eq_nI (p := tg f E (by2 f (cb + pc + 1))) (n := 7) (Nat.lt_trans (tg_lt _ _ _) (by decide)) (by decide)).mpr h9)
          refine ps_st (S' := (457, [(0, .ref m0), (3, .int (nI (by2 f (cb + pc + 1)))), (4, .int (nI (tg f E (by2 f (cb + pc + 1)))))], [.int (nI (tg f E (by2 f (cb + pc + 1))))], M)) rfl rfl rfl ?_
          refine ps_st (S' := (459, [(0, .ref m0), (3, .int (nI (by2 f (cb + pc + 1)))), (4, .int (nI (tg f E (by2 f (cb + pc + 1)))))], [.int 15, .int (nI (tg f E (by2 f (cb + pc + 1))))], M)) rfl rfl rfl ?_
          refine ps_if2 (S1 := (469, [(0, .ref m0), (3, .int (nI (by2 f (cb + pc + 1)))), (4, .int (nI (tg f E (by2 f (cb + pc + 1)))))], [], M)) (S2 := (462, [(0, .ref m0), (3, .int (nI (by2 f (cb + pc + 1)))), (4, .int (nI (tg f E (by2 f (cb + pc + 1)))))], [], M)) rfl rfl rfl (fun c_459 => ?_) (fun c_459 => ?_)
          · have c_459 : (nI (tg f E (by2 f (cb + pc + 1)))) = 15 := of_decide_eq_true c_459
            have n_459 : tg f E (by2 f (cb + pc + 1)) = 15 := (eq_nI (p := tg f E (by2 f (cb + pc + 1))) (n := 15) (Nat.lt_trans (tg_lt _ _ _) (by decide)) (by decide)).mp c_459
            refine ps_st (S' := (470, [(0, .ref m0), (3, .int (nI (by2 f (cb + pc + 1)))), (4, .int (nI (tg f E (by2 f (cb + pc + 1)))))], [.ref m0], M)) rfl rfl rfl ?_
            refine pr_int (j := 53) (S' := (473, [(0, .ref m0), (3, .int (nI (by2 f (cb + pc + 1)))), (4, .int (nI (tg f E (by2 f (cb + pc + 1)))))], [.int (nI mj)], M)) rfl hR rfl hi53 rfl ?_
            refine ps_st (S' := (475, [(0, .ref m0), (3, .int (nI (by2 f (cb + pc + 1)))), (4, .int (nI (tg f E (by2 f (cb + pc + 1)))))], [.int 51, .int (nI mj)], M)) rfl rfl rfl ?_
            refine ps_if2 (S1 := (507, [], [], M)) (S2 := (478, [(0, .ref m0), (3, .int (nI (by2 f (cb + pc + 1)))), (4, .int (nI (tg f E (by2 f (cb + pc + 1)))))], [], M)) rfl rfl rfl (fun c_475 => ?_) (fun c_475 => ?_)
            · have c_475 : 51 ≤ (nI mj) := of_decide_eq_true c_475
              have n_475 : 51 ≤ mj := (le_nI (p := 51) (n := mj) (by decide) (by omega)).mp c_475
              refine ps_st (S' := (508, [], [.int 1], M)) rfl rfl rfl ?_
              refine ps_st (S' := (512, [], [.int 1], M)) rfl rfl rfl ?_
              exact ps_ret rfl rfl (⟨congrArg (fun x => some (Value.int (nI x))) (show 1 = ld1N f n E mj (by2 f (cb + pc + 1)) (tg f E (by2 f (cb + pc + 1))) from by
                  unfold ld1N
                  repeat first | rw [if_pos (by omega)] | rw [if_neg (by omega)]), rfl⟩)
            · have c_475 : ¬ (51 ≤ (nI mj)) := of_decide_eq_false c_475
              have n_475 : ¬ (51 ≤ mj) := fun h9 => c_475 ((le_nI (p := 51) (n := mj) (by decide) (by omega)).mpr h9)
              refine ps_st (S' := (480, [(0, .ref m0), (3, .int (nI (by2 f (cb + pc + 1)))), (4, .int (nI (tg f E (by2 f (cb + pc + 1)))))], [.int (nI (tg f E (by2 f (cb + pc + 1))))], M)) rfl rfl rfl ?_
              refine ps_st (S' := (482, [(0, .ref m0), (3, .int (nI (by2 f (cb + pc + 1)))), (4, .int (nI (tg f E (by2 f (cb + pc + 1)))))], [.int 17, .int (nI (tg f E (by2 f (cb + pc + 1))))], M)) rfl rfl rfl ?_
              refine ps_if2 (S1 := (511, [], [], M)) (S2 := (485, [(0, .ref m0), (3, .int (nI (by2 f (cb + pc + 1)))), (4, .int (nI (tg f E (by2 f (cb + pc + 1)))))], [], M)) rfl rfl rfl (fun c_482 => ?_) (fun c_482 => ?_)
              rotate_left
              · exact absurd (show ¬ ((nI (tg f E (by2 f (cb + pc + 1)))) = 17) from fun h9 => absurd ((eq_nI (p := tg f E (by2 f (cb + pc + 1))) (n := 17) (Nat.lt_trans (tg_lt _ _ _) (by decide)) (by decide)).mp h9) (by omega)) (of_decide_eq_false c_482)
              refine ps_st (S' := (512, [], [.int 0], M)) rfl rfl rfl ?_
              exact ps_ret rfl rfl (⟨congrArg (fun x => some (Value.int (nI x))) (show 0 = ld1N f n E mj (by2 f (cb + pc + 1)) (tg f E (by2 f (cb + pc + 1))) from by
                  unfold ld1N
                  repeat first | rw [if_pos (by omega)] | rw [if_neg (by omega)]), rfl⟩)
          · have c_459 : ¬ ((nI (tg f E (by2 f (cb + pc + 1)))) = 15) := of_decide_eq_false c_459
            have n_459 : ¬ (tg f E (by2 f (cb + pc + 1)) = 15) := fun h9 => c_459 ((eq_nI (p := tg f E (by2 f (cb + pc + 1))) (n := 15) (Nat.lt_trans (tg_lt _ _ _) (by decide)) (by decide)).mpr h9)
            refine ps_st (S' := (464, [(0, .ref m0), (3, .int (nI (by2 f (cb + pc + 1)))), (4, .int (nI (tg f E (by2 f (cb + pc + 1)))))], [.int (nI (tg f E (by2 f (cb + pc + 1))))], M)) rfl rfl rfl ?_
            refine ps_st (S' := (466, [(0, .ref m0), (3, .int (nI (by2 f (cb + pc + 1)))), (4, .int (nI (tg f E (by2 f (cb + pc + 1)))))], [.int 16, .int (nI (tg f E (by2 f (cb + pc + 1))))], M)) rfl rfl rfl ?_
            refine ps_if2 (S1 := (478, [(0, .ref m0), (3, .int (nI (by2 f (cb + pc + 1)))), (4, .int (nI (tg f E (by2 f (cb + pc + 1)))))], [], M)) (S2 := (469, [(0, .ref m0), (3, .int (nI (by2 f (cb + pc + 1)))), (4, .int (nI (tg f E (by2 f (cb + pc + 1)))))], [], M)) rfl rfl rfl (fun c_466 => ?_) (fun c_466 => ?_)
            · have c_466 : ¬ (nI (tg f E (by2 f (cb + pc + 1)))) = 16 := of_decide_eq_true c_466
              have n_466 : ¬ (tg f E (by2 f (cb + pc + 1)) = 16) := fun h9 => c_466 ((eq_nI (p := tg f E (by2 f (cb + pc + 1))) (n := 16) (Nat.lt_trans (tg_lt _ _ _) (by decide)) (by decide)).mpr h9)
              refine ps_st (S' := (480, [(0, .ref m0), (3, .int (nI (by2 f (cb + pc + 1)))), (4, .int (nI (tg f E (by2 f (cb + pc + 1)))))], [.int (nI (tg f E (by2 f (cb + pc + 1))))], M)) rfl rfl rfl ?_
              refine ps_st (S' := (482, [(0, .ref m0), (3, .int (nI (by2 f (cb + pc + 1)))), (4, .int (nI (tg f E (by2 f (cb + pc + 1)))))], [.int 17, .int (nI (tg f E (by2 f (cb + pc + 1))))], M)) rfl rfl rfl ?_
              refine ps_if2 (S1 := (511, [], [], M)) (S2 := (485, [(0, .ref m0), (3, .int (nI (by2 f (cb + pc + 1)))), (4, .int (nI (tg f E (by2 f (cb + pc + 1)))))], [], M)) rfl rfl rfl (fun c_482 => ?_) (fun c_482 => ?_)
              · have c_482 : ¬ (nI (tg f E (by2 f (cb + pc + 1)))) = 17 := of_decide_eq_true c_482
                have n_482 : ¬ (tg f E (by2 f (cb + pc + 1)) = 17) := fun h9 => c_482 ((eq_nI (p := tg f E (by2 f (cb + pc + 1))) (n := 17) (Nat.lt_trans (tg_lt _ _ _) (by decide)) (by decide)).mpr h9)
                refine ps_st (S' := (512, [], [.int 0], M)) rfl rfl rfl ?_
                exact ps_ret rfl rfl (⟨congrArg (fun x => some (Value.int (nI x))) (show 0 = ld1N f n E mj (by2 f (cb + pc + 1)) (tg f E (by2 f (cb + pc + 1))) from by
                    unfold ld1N
                    repeat first | rw [if_pos (by omega)] | rw [if_neg (by omega)]), rfl⟩)
              · have c_482 : ¬ (¬ (nI (tg f E (by2 f (cb + pc + 1)))) = 17) := of_decide_eq_false c_482
                have n_482 : tg f E (by2 f (cb + pc + 1)) = 17 := (eq_nI (p := tg f E (by2 f (cb + pc + 1))) (n := 17) (Nat.lt_trans (tg_lt _ _ _) (by decide)) (by decide)).mp (Decidable.not_not.mp c_482)
                refine ps_st (S' := (486, [(0, .ref m0), (3, .int (nI (by2 f (cb + pc + 1)))), (4, .int (nI (tg f E (by2 f (cb + pc + 1)))))], [.ref m0], M)) rfl rfl rfl ?_
                refine pr_int (j := 53) (S' := (489, [(0, .ref m0), (3, .int (nI (by2 f (cb + pc + 1)))), (4, .int (nI (tg f E (by2 f (cb + pc + 1)))))], [.int (nI mj)], M)) rfl hR rfl hi53 rfl ?_
                refine ps_st (S' := (491, [(0, .ref m0), (3, .int (nI (by2 f (cb + pc + 1)))), (4, .int (nI (tg f E (by2 f (cb + pc + 1)))))], [.int 55, .int (nI mj)], M)) rfl rfl rfl ?_
                refine ps_if2 (S1 := (511, [], [], M)) (S2 := (494, [(0, .ref m0), (3, .int (nI (by2 f (cb + pc + 1)))), (4, .int (nI (tg f E (by2 f (cb + pc + 1)))))], [], M)) rfl rfl rfl (fun c_491 => ?_) (fun c_491 => ?_)
                · have c_491 : (nI mj) < 55 := of_decide_eq_true c_491
                  have n_491 : mj < 55 := (lt_nI (p := mj) (n := 55) (by omega) (by decide)).mp c_491
                  refine ps_st (S' := (512, [], [.int 0], M)) rfl rfl rfl ?_
                  exact ps_ret rfl rfl (⟨congrArg (fun x => some (Value.int (nI x))) (show 0 = ld1N f n E mj (by2 f (cb + pc + 1)) (tg f E (by2 f (cb + pc + 1))) from by
                      unfold ld1N
                      repeat first | rw [if_pos (by omega)] | rw [if_neg (by omega)]), rfl⟩)
                · have c_491 : ¬ ((nI mj) < 55) := of_decide_eq_false c_491
                  have n_491 : ¬ (mj < 55) := fun h9 => c_491 ((lt_nI (p := mj) (n := 55) (by omega) (by decide)).mpr h9)
                  refine ps_st (S' := (495, [(0, .ref m0), (3, .int (nI (by2 f (cb + pc + 1)))), (4, .int (nI (tg f E (by2 f (cb + pc + 1)))))], [.ref m0], M)) rfl rfl rfl ?_
                  refine ps_st (S' := (496, [(0, .ref m0), (3, .int (nI (by2 f (cb + pc + 1)))), (4, .int (nI (tg f E (by2 f (cb + pc + 1)))))], [.ref m0, .ref m0], M)) rfl rfl rfl ?_
                  refine ps_st (S' := (497, [(0, .ref m0), (3, .int (nI (by2 f (cb + pc + 1)))), (4, .int (nI (tg f E (by2 f (cb + pc + 1)))))], [.int (nI (by2 f (cb + pc + 1))), .ref m0, .ref m0], M)) rfl rfl rfl ?_
                  refine pl_call (a := [.ref m0, .int (nI (by2 f (cb + pc + 1)))]) (rest := [.ref m0]) rfl rfl rfl (rd_descOf (n := n) (f := f) (tx := tx) (cN := cN) (A := A) (N := N) (mj := mj) (E := E) (k := (by2 f (cb + pc + 1))) hR hi51 hi52 hi53 hF hY hP (hEP) (hN) (hmj) (by omega) ((hPF (by2 f (cb + pc + 1))).1 (by omega) |>.1) ((hPF (by2 f (cb + pc + 1))).1 (by omega) |>.2.2)) (fun v7 M8 q9 => ?_)
                  obtain ⟨s10, q497_s, rfl, rfl⟩ := q9
                  show pl _ _ _ (500, [(0, .ref m0), (3, .int (nI (by2 f (cb + pc + 1)))), (4, .int (nI (tg f E (by2 f (cb + pc + 1)))))], [.int (nI s10), .ref m0], M) _
                  have hsl_497 := q497_s.1
                  have htl_497 := hY.1.2.2.1
                  refine ps_st (S' := (501, [(0, .ref m0), (3, .int (nI (by2 f (cb + pc + 1)))), (4, .int (nI (tg f E (by2 f (cb + pc + 1)))))], [.int 0, .int (nI s10), .ref m0], M)) rfl rfl rfl ?_
                  have hfl_501 := (hPF (by2 f (cb + pc + 1))).2.1 (by omega)
                  have hf0_501 := (fld_sh hfl_501).2
                  refine pl_call (a := [.ref m0, .int (nI s10), .int 0]) (rest := []) rfl rfl rfl (rd_wide (tx := tx) (cN := cN) (A := A) (s := s10) (l := (tX f n E (se f E (se f E (by2 f (cb + pc + 1)))))) (k := 0) hR hY (q497_s) (hf0_501)) (fun v11 M12 q13 => ?_)
                  obtain ⟨rfl, rfl⟩ := q13
                  show pl _ _ _ (504, [(0, .ref m0), (3, .int (nI (by2 f (cb + pc + 1)))), (4, .int (nI (tg f E (by2 f (cb + pc + 1)))))], [.int (nI (wdN ((tX f n E (se f E (se f E (by2 f (cb + pc + 1))))).getD 0 0)))], M) _
                  have hwd_501 := le1_wd ((tX f n E (se f E (se f E (by2 f (cb + pc + 1))))).getD 0 0)
                  have hd1_501 := dc_1 ((hPF (by2 f (cb + pc + 1))).1 (by omega)).2.2 hfl_501
                  have hd2_501 := dc_2 ((hPF (by2 f (cb + pc + 1))).1 (by omega)).2.2 hfl_501
                  refine ps_if (S1 := (511, [], [], M)) (S2 := (507, [], [], M)) rfl rfl rfl (fun c_504 => ?_) (fun c_504 => ?_)
                  · have c_504 : ¬ (nI (wdN ((tX f n E (se f E (se f E (by2 f (cb + pc + 1))))).getD 0 0))) = 0 := of_decide_eq_true c_504
                    have n_504 : ¬ (wdN ((tX f n E (se f E (se f E (by2 f (cb + pc + 1))))).getD 0 0) = 0) := fun h9 => c_504 ((eq_nI (p := wdN ((tX f n E (se f E (se f E (by2 f (cb + pc + 1))))).getD 0 0)) (n := 0) (Nat.lt_trans (le1_wd _) (by decide)) (by decide)).mpr h9)
                    refine ps_st (S' := (512, [], [.int 0], M)) rfl rfl rfl ?_
                    exact ps_ret rfl rfl (⟨congrArg (fun x => some (Value.int (nI x))) (show 0 = ld1N f n E mj (by2 f (cb + pc + 1)) (tg f E (by2 f (cb + pc + 1))) from by
                        unfold ld1N
                        repeat first | rw [if_pos (by omega)] | rw [if_neg (by omega)]
                        rw [if_neg (fun h9 => absurd (hd1_501.mp h9.2) n_504)]), rfl⟩)
                  · have c_504 : ¬ (¬ (nI (wdN ((tX f n E (se f E (se f E (by2 f (cb + pc + 1))))).getD 0 0))) = 0) := of_decide_eq_false c_504
                    have n_504 : wdN ((tX f n E (se f E (se f E (by2 f (cb + pc + 1))))).getD 0 0) = 0 := (eq_nI (p := wdN ((tX f n E (se f E (se f E (by2 f (cb + pc + 1))))).getD 0 0)) (n := 0) (Nat.lt_trans (le1_wd _) (by decide)) (by decide)).mp (Decidable.not_not.mp c_504)
                    refine ps_st (S' := (508, [], [.int 1], M)) rfl rfl rfl ?_
                    refine ps_st (S' := (512, [], [.int 1], M)) rfl rfl rfl ?_
                    exact ps_ret rfl rfl (⟨congrArg (fun x => some (Value.int (nI x))) (show 1 = ld1N f n E mj (by2 f (cb + pc + 1)) (tg f E (by2 f (cb + pc + 1))) from by
                        unfold ld1N
                        repeat first | rw [if_pos (by omega)] | rw [if_neg (by omega)]
                        rw [if_pos ⟨by omega, hd1_501.mpr n_504⟩]), rfl⟩)
            · have c_466 : ¬ (¬ (nI (tg f E (by2 f (cb + pc + 1)))) = 16) := of_decide_eq_false c_466
              have n_466 : tg f E (by2 f (cb + pc + 1)) = 16 := (eq_nI (p := tg f E (by2 f (cb + pc + 1))) (n := 16) (Nat.lt_trans (tg_lt _ _ _) (by decide)) (by decide)).mp (Decidable.not_not.mp c_466)
              refine ps_st (S' := (470, [(0, .ref m0), (3, .int (nI (by2 f (cb + pc + 1)))), (4, .int (nI (tg f E (by2 f (cb + pc + 1)))))], [.ref m0], M)) rfl rfl rfl ?_
              refine pr_int (j := 53) (S' := (473, [(0, .ref m0), (3, .int (nI (by2 f (cb + pc + 1)))), (4, .int (nI (tg f E (by2 f (cb + pc + 1)))))], [.int (nI mj)], M)) rfl hR rfl hi53 rfl ?_
              refine ps_st (S' := (475, [(0, .ref m0), (3, .int (nI (by2 f (cb + pc + 1)))), (4, .int (nI (tg f E (by2 f (cb + pc + 1)))))], [.int 51, .int (nI mj)], M)) rfl rfl rfl ?_
              refine ps_if2 (S1 := (507, [], [], M)) (S2 := (478, [(0, .ref m0), (3, .int (nI (by2 f (cb + pc + 1)))), (4, .int (nI (tg f E (by2 f (cb + pc + 1)))))], [], M)) rfl rfl rfl (fun c_475 => ?_) (fun c_475 => ?_)
              · have c_475 : 51 ≤ (nI mj) := of_decide_eq_true c_475
                have n_475 : 51 ≤ mj := (le_nI (p := 51) (n := mj) (by decide) (by omega)).mp c_475
                refine ps_st (S' := (508, [], [.int 1], M)) rfl rfl rfl ?_
                refine ps_st (S' := (512, [], [.int 1], M)) rfl rfl rfl ?_
                exact ps_ret rfl rfl (⟨congrArg (fun x => some (Value.int (nI x))) (show 1 = ld1N f n E mj (by2 f (cb + pc + 1)) (tg f E (by2 f (cb + pc + 1))) from by
                    unfold ld1N
                    repeat first | rw [if_pos (by omega)] | rw [if_neg (by omega)]), rfl⟩)
              · have c_475 : ¬ (51 ≤ (nI mj)) := of_decide_eq_false c_475
                have n_475 : ¬ (51 ≤ mj) := fun h9 => c_475 ((le_nI (p := 51) (n := mj) (by decide) (by omega)).mpr h9)
                refine ps_st (S' := (480, [(0, .ref m0), (3, .int (nI (by2 f (cb + pc + 1)))), (4, .int (nI (tg f E (by2 f (cb + pc + 1)))))], [.int (nI (tg f E (by2 f (cb + pc + 1))))], M)) rfl rfl rfl ?_
                refine ps_st (S' := (482, [(0, .ref m0), (3, .int (nI (by2 f (cb + pc + 1)))), (4, .int (nI (tg f E (by2 f (cb + pc + 1)))))], [.int 17, .int (nI (tg f E (by2 f (cb + pc + 1))))], M)) rfl rfl rfl ?_
                refine ps_if2 (S1 := (511, [], [], M)) (S2 := (485, [(0, .ref m0), (3, .int (nI (by2 f (cb + pc + 1)))), (4, .int (nI (tg f E (by2 f (cb + pc + 1)))))], [], M)) rfl rfl rfl (fun c_482 => ?_) (fun c_482 => ?_)
                rotate_left
                · exact absurd (show ¬ ((nI (tg f E (by2 f (cb + pc + 1)))) = 17) from fun h9 => absurd ((eq_nI (p := tg f E (by2 f (cb + pc + 1))) (n := 17) (Nat.lt_trans (tg_lt _ _ _) (by decide)) (by decide)).mp h9) (by omega)) (of_decide_eq_false c_482)
                refine ps_st (S' := (512, [], [.int 0], M)) rfl rfl rfl ?_
                exact ps_ret rfl rfl (⟨congrArg (fun x => some (Value.int (nI x))) (show 0 = ld1N f n E mj (by2 f (cb + pc + 1)) (tg f E (by2 f (cb + pc + 1))) from by
                    unfold ld1N
                    repeat first | rw [if_pos (by omega)] | rw [if_neg (by omega)]), rfl⟩)
        · have c_443 : ¬ (¬ (nI (tg f E (by2 f (cb + pc + 1)))) = 7) := of_decide_eq_false c_443
          have n_443 : tg f E (by2 f (cb + pc + 1)) = 7 := (eq_nI (p := tg f E (by2 f (cb + pc + 1))) (n := 7) (Nat.lt_trans (tg_lt _ _ _) (by decide)) (by decide)).mp (Decidable.not_not.mp c_443)
          refine ps_st (S' := (447, [(4, .int (nI (tg f E (by2 f (cb + pc + 1))))), (3, .int (nI (by2 f (cb + pc + 1)))), (0, .ref m0), (2, .int 19)], [.ref m0], M)) rfl rfl rfl ?_
          refine pr_int (j := 53) (S' := (450, [(4, .int (nI (tg f E (by2 f (cb + pc + 1))))), (3, .int (nI (by2 f (cb + pc + 1)))), (0, .ref m0), (2, .int 19)], [.int (nI mj)], M)) rfl hR rfl hi53 rfl ?_
          refine ps_st (S' := (452, [(4, .int (nI (tg f E (by2 f (cb + pc + 1))))), (3, .int (nI (by2 f (cb + pc + 1)))), (0, .ref m0), (2, .int 19)], [.int 49, .int (nI mj)], M)) rfl rfl rfl ?_
          refine ps_if2 (S1 := (507, [], [], M)) (S2 := (455, [(0, .ref m0), (3, .int (nI (by2 f (cb + pc + 1)))), (4, .int (nI (tg f E (by2 f (cb + pc + 1)))))], [], M)) rfl rfl rfl (fun c_452 => ?_) (fun c_452 => ?_)
          · have c_452 : 49 ≤ (nI mj) := of_decide_eq_true c_452
            have n_452 : 49 ≤ mj := (le_nI (p := 49) (n := mj) (by decide) (by omega)).mp c_452
            refine ps_st (S' := (508, [], [.int 1], M)) rfl rfl rfl ?_
            refine ps_st (S' := (512, [], [.int 1], M)) rfl rfl rfl ?_
            exact ps_ret rfl rfl (⟨congrArg (fun x => some (Value.int (nI x))) (show 1 = ld1N f n E mj (by2 f (cb + pc + 1)) (tg f E (by2 f (cb + pc + 1))) from by
                unfold ld1N
                repeat first | rw [if_pos (by omega)] | rw [if_neg (by omega)]), rfl⟩)
          · have c_452 : ¬ (49 ≤ (nI mj)) := of_decide_eq_false c_452
            have n_452 : ¬ (49 ≤ mj) := fun h9 => c_452 ((le_nI (p := 49) (n := mj) (by decide) (by omega)).mpr h9)
            refine ps_st (S' := (457, [(0, .ref m0), (3, .int (nI (by2 f (cb + pc + 1)))), (4, .int (nI (tg f E (by2 f (cb + pc + 1)))))], [.int (nI (tg f E (by2 f (cb + pc + 1))))], M)) rfl rfl rfl ?_
            refine ps_st (S' := (459, [(0, .ref m0), (3, .int (nI (by2 f (cb + pc + 1)))), (4, .int (nI (tg f E (by2 f (cb + pc + 1)))))], [.int 15, .int (nI (tg f E (by2 f (cb + pc + 1))))], M)) rfl rfl rfl ?_
            refine ps_if2 (S1 := (469, [(0, .ref m0), (3, .int (nI (by2 f (cb + pc + 1)))), (4, .int (nI (tg f E (by2 f (cb + pc + 1)))))], [], M)) (S2 := (462, [(0, .ref m0), (3, .int (nI (by2 f (cb + pc + 1)))), (4, .int (nI (tg f E (by2 f (cb + pc + 1)))))], [], M)) rfl rfl rfl (fun c_459 => ?_) (fun c_459 => ?_)
            · exact absurd (of_decide_eq_true c_459) (show ¬ ((nI (tg f E (by2 f (cb + pc + 1)))) = 15) from fun h9 => absurd ((eq_nI (p := tg f E (by2 f (cb + pc + 1))) (n := 15) (Nat.lt_trans (tg_lt _ _ _) (by decide)) (by decide)).mp h9) (by omega))
            refine ps_st (S' := (464, [(0, .ref m0), (3, .int (nI (by2 f (cb + pc + 1)))), (4, .int (nI (tg f E (by2 f (cb + pc + 1)))))], [.int (nI (tg f E (by2 f (cb + pc + 1))))], M)) rfl rfl rfl ?_
            refine ps_st (S' := (466, [(0, .ref m0), (3, .int (nI (by2 f (cb + pc + 1)))), (4, .int (nI (tg f E (by2 f (cb + pc + 1)))))], [.int 16, .int (nI (tg f E (by2 f (cb + pc + 1))))], M)) rfl rfl rfl ?_
            refine ps_if2 (S1 := (478, [(0, .ref m0), (3, .int (nI (by2 f (cb + pc + 1)))), (4, .int (nI (tg f E (by2 f (cb + pc + 1)))))], [], M)) (S2 := (469, [(0, .ref m0), (3, .int (nI (by2 f (cb + pc + 1)))), (4, .int (nI (tg f E (by2 f (cb + pc + 1)))))], [], M)) rfl rfl rfl (fun c_466 => ?_) (fun c_466 => ?_)
            rotate_left
            · exact absurd (show ¬ ((nI (tg f E (by2 f (cb + pc + 1)))) = 16) from fun h9 => absurd ((eq_nI (p := tg f E (by2 f (cb + pc + 1))) (n := 16) (Nat.lt_trans (tg_lt _ _ _) (by decide)) (by decide)).mp h9) (by omega)) (of_decide_eq_false c_466)
            refine ps_st (S' := (480, [(0, .ref m0), (3, .int (nI (by2 f (cb + pc + 1)))), (4, .int (nI (tg f E (by2 f (cb + pc + 1)))))], [.int (nI (tg f E (by2 f (cb + pc + 1))))], M)) rfl rfl rfl ?_
            refine ps_st (S' := (482, [(0, .ref m0), (3, .int (nI (by2 f (cb + pc + 1)))), (4, .int (nI (tg f E (by2 f (cb + pc + 1)))))], [.int 17, .int (nI (tg f E (by2 f (cb + pc + 1))))], M)) rfl rfl rfl ?_
            refine ps_if2 (S1 := (511, [], [], M)) (S2 := (485, [(0, .ref m0), (3, .int (nI (by2 f (cb + pc + 1)))), (4, .int (nI (tg f E (by2 f (cb + pc + 1)))))], [], M)) rfl rfl rfl (fun c_482 => ?_) (fun c_482 => ?_)
            rotate_left
            · exact absurd (show ¬ ((nI (tg f E (by2 f (cb + pc + 1)))) = 17) from fun h9 => absurd ((eq_nI (p := tg f E (by2 f (cb + pc + 1))) (n := 17) (Nat.lt_trans (tg_lt _ _ _) (by decide)) (by decide)).mp h9) (by omega)) (of_decide_eq_false c_482)
            refine ps_st (S' := (512, [], [.int 0], M)) rfl rfl rfl ?_
            exact ps_ret rfl rfl (⟨congrArg (fun x => some (Value.int (nI x))) (show 0 = ld1N f n E mj (by2 f (cb + pc + 1)) (tg f E (by2 f (cb + pc + 1))) from by
                unfold ld1N
                repeat first | rw [if_pos (by omega)] | rw [if_neg (by omega)]), rfl⟩)
set_option maxHeartbeats 1000000 in
theorem rd_op20 {g : xe_G} {m0 : Nat} {q : Nat → Nat} {z : Nat × Nat} {I : rI} {R : rR} {M : mi_H} {n : Nat} {f : Nat → Int32} {tx : List (List Nat)} {cN : Nat} {A : Nat → Nat} {N mj : Nat} {E : List (Nat × Nat)} {cb ml s9 pc : Nat} (hR : RS g m0 q z I R M) (hi51 : I 51 = some 0) (hi52 : I 52 = some (nI N)) (hi53 : I 53 = some (nI mj)) (hi77 : I 77 = some (nI cb)) (hi79 : I 79 = some (nI ml)) (hi9 : I 9 = some (nI s9)) (hF : FK n f I R) (hY : SYT tx cN A I R) (hP : RPV f n E tx N I R) (hEP : EP f n E) (hN : N < 65536) (hmj : mj < 65536) (hml : ml < 65536) (hs9 : s9 < tx.length ∧ tx.getD s9 [] = ltx 14) (hCP : CP f n E) (hPF : PF f n E) (hin : cb + pc + 3 ≤ n) : pt (mT g) 228 [.ref m0, .int (nI pc), .int 20] M (fun v M' => (v = some (.int (nI (ld2N f n E (by2 f (cb + pc + 1)) (tg f E (by2 f (cb + pc + 1)))))) ∧ M = M')) := by
  refine pt_in (b := mb_228 g) rfl (fun kf => ?_)
  show pl (mT g) kf (mb_228 g).2 (0, [(0, .ref m0), (1, .int (nI pc)), (2, .int 20)], [], M) _
  have hn := hF.1
  have htl := hY.1.2.2.1
  refine ps_st (S' := (1, [(0, .ref m0), (1, .int (nI pc)), (2, .int 20)], [.int 20], M)) rfl rfl rfl ?_
  refine ps_st (S' := (4, [(0, .ref m0), (1, .int (nI pc)), (2, .int 20)], [.int 168, .int 20], M)) rfl rfl rfl ?_
  refine ps_if2 (S1 := (21, [(0, .ref m0), (1, .int (nI pc)), (2, .int 20)], [], M)) (S2 := (7, [(0, .ref m0), (1, .int (nI pc)), (2, .int 20)], [], M)) rfl rfl rfl (fun c_4 => ?_) (fun c_4 => ?_)
  · exact absurd (of_decide_eq_true c_4) (by decide)
  refine ps_st (S' := (8, [(0, .ref m0), (1, .int (nI pc)), (2, .int 20)], [.int 20], M)) rfl rfl rfl ?_
  refine ps_st (S' := (11, [(0, .ref m0), (1, .int (nI pc)), (2, .int 20)], [.int 169, .int 20], M)) rfl rfl rfl ?_
  refine ps_if2 (S1 := (21, [(0, .ref m0), (1, .int (nI pc)), (2, .int 20)], [], M)) (S2 := (14, [(0, .ref m0), (1, .int (nI pc)), (2, .int 20)], [], M)) rfl rfl rfl (fun c_11 => ?_) (fun c_11 => ?_)
  · exact absurd (of_decide_eq_true c_11) (by decide)
  refine ps_st (S' := (15, [(0, .ref m0), (1, .int (nI pc)), (2, .int 20)], [.int 20], M)) rfl rfl rfl ?_
  refine ps_st (S' := (18, [(0, .ref m0), (1, .int (nI pc)), (2, .int 20)], [.int 201, .int 20], M)) rfl rfl rfl ?_
  refine ps_if2 (S1 := (58, [(0, .ref m0), (1, .int (nI pc)), (2, .int 20)], [], M)) (S2 := (21, [(0, .ref m0), (1, .int (nI pc)), (2, .int 20)], [], M)) rfl rfl rfl (fun c_18 => ?_) (fun c_18 => ?_)
  rotate_left
  · exact absurd (by decide) (of_decide_eq_false c_18)
  refine ps_st (S' := (59, [(0, .ref m0), (1, .int (nI pc)), (2, .int 20)], [.int 20], M)) rfl rfl rfl ?_
  refine ps_st (S' := (61, [(0, .ref m0), (1, .int (nI pc)), (2, .int 20)], [.int 21, .int 20], M)) rfl rfl rfl ?_
  refine ps_if2 (S1 := (70, [(0, .ref m0), (1, .int (nI pc)), (2, .int 20)], [], M)) (S2 := (64, [(0, .ref m0), (1, .int (nI pc)), (2, .int 20)], [], M)) rfl rfl rfl (fun c_61 => ?_) (fun c_61 => ?_)
  rotate_left
  · exact absurd (by decide) (of_decide_eq_false c_61)
  refine ps_st (S' := (71, [(0, .ref m0), (1, .int (nI pc)), (2, .int 20)], [.int 20], M)) rfl rfl rfl ?_
  refine ps_st (S' := (73, [(0, .ref m0), (1, .int (nI pc)), (2, .int 20)], [.int 54, .int 20], M)) rfl rfl rfl ?_
  refine ps_if2 (S1 := (127, [(0, .ref m0), (1, .int (nI pc)), (2, .int 20)], [], M)) (S2 := (76, [(0, .ref m0), (1, .int (nI pc)), (2, .int 20)], [], M)) rfl rfl rfl (fun c_73 => ?_) (fun c_73 => ?_)
  rotate_left
  · exact absurd (by decide) (of_decide_eq_false c_73)
  refine ps_st (S' := (128, [(0, .ref m0), (1, .int (nI pc)), (2, .int 20)], [.int 20], M)) rfl rfl rfl ?_
  refine ps_st (S' := (130, [(0, .ref m0), (1, .int (nI pc)), (2, .int 20)], [.int 26, .int 20], M)) rfl rfl rfl ?_
  refine ps_if2 (S1 := (139, [(0, .ref m0), (1, .int (nI pc)), (2, .int 20)], [], M)) (S2 := (133, [(0, .ref m0), (1, .int (nI pc)), (2, .int 20)], [], M)) rfl rfl rfl (fun c_130 => ?_) (fun c_130 => ?_)
  rotate_left
  · exact absurd (by decide) (of_decide_eq_false c_130)
  refine ps_st (S' := (140, [(0, .ref m0), (1, .int (nI pc)), (2, .int 20)], [.int 20], M)) rfl rfl rfl ?_
  refine ps_st (S' := (142, [(0, .ref m0), (1, .int (nI pc)), (2, .int 20)], [.int 59, .int 20], M)) rfl rfl rfl ?_
  refine ps_if2 (S1 := (196, [(0, .ref m0), (1, .int (nI pc)), (2, .int 20)], [], M)) (S2 := (145, [(0, .ref m0), (1, .int (nI pc)), (2, .int 20)], [], M)) rfl rfl rfl (fun c_142 => ?_) (fun c_142 => ?_)
  rotate_left
  · exact absurd (by decide) (of_decide_eq_false c_142)
  refine ps_st (S' := (197, [(0, .ref m0), (1, .int (nI pc)), (2, .int 20)], [.int 20], M)) rfl rfl rfl ?_
  refine ps_st (S' := (200, [(0, .ref m0), (1, .int (nI pc)), (2, .int 20)], [.int 132, .int 20], M)) rfl rfl rfl ?_
  refine ps_if2 (S1 := (216, [(0, .ref m0), (1, .int (nI pc)), (2, .int 20)], [], M)) (S2 := (203, [(0, .ref m0), (1, .int (nI pc)), (2, .int 20)], [], M)) rfl rfl rfl (fun c_200 => ?_) (fun c_200 => ?_)
  rotate_left
  · exact absurd (by decide) (of_decide_eq_false c_200)
  refine ps_st (S' := (217, [(0, .ref m0), (1, .int (nI pc)), (2, .int 20)], [.int 20], M)) rfl rfl rfl ?_
  refine ps_st (S' := (220, [(0, .ref m0), (1, .int (nI pc)), (2, .int 20)], [.int 196, .int 20], M)) rfl rfl rfl ?_
  refine ps_if2 (S1 := (296, [(0, .ref m0), (1, .int (nI pc)), (2, .int 20)], [], M)) (S2 := (223, [(0, .ref m0), (1, .int (nI pc)), (2, .int 20)], [], M)) rfl rfl rfl (fun c_220 => ?_) (fun c_220 => ?_)
  rotate_left
  · exact absurd (by decide) (of_decide_eq_false c_220)
  refine ps_st (S' := (297, [(0, .ref m0), (1, .int (nI pc)), (2, .int 20)], [.int 20], M)) rfl rfl rfl ?_
  refine ps_st (S' := (300, [(0, .ref m0), (1, .int (nI pc)), (2, .int 20)], [.int 188, .int 20], M)) rfl rfl rfl ?_
  refine ps_if2 (S1 := (332, [(0, .ref m0), (1, .int (nI pc)), (2, .int 20)], [], M)) (S2 := (303, [(0, .ref m0), (1, .int (nI pc)), (2, .int 20)], [], M)) rfl rfl rfl (fun c_300 => ?_) (fun c_300 => ?_)
  rotate_left
  · exact absurd (by decide) (of_decide_eq_false c_300)
  refine ps_st (S' := (333, [(0, .ref m0), (1, .int (nI pc)), (2, .int 20)], [.int 20], M)) rfl rfl rfl ?_
  refine ps_st (S' := (335, [(0, .ref m0), (1, .int (nI pc)), (2, .int 20)], [.int 18, .int 20], M)) rfl rfl rfl ?_
  refine ps_if2 (S1 := (513, [(0, .ref m0), (1, .int (nI pc)), (2, .int 20)], [], M)) (S2 := (338, [(0, .ref m0), (1, .int (nI pc)), (2, .int 20)], [], M)) rfl rfl rfl (fun c_335 => ?_) (fun c_335 => ?_)
  · exact absurd (of_decide_eq_true c_335) (by decide)
  refine ps_st (S' := (339, [(0, .ref m0), (1, .int (nI pc)), (2, .int 20)], [.int 20], M)) rfl rfl rfl ?_
  refine ps_st (S' := (341, [(0, .ref m0), (1, .int (nI pc)), (2, .int 20)], [.int 20, .int 20], M)) rfl rfl rfl ?_
  refine ps_if2 (S1 := (513, [(0, .ref m0), (1, .int (nI pc)), (2, .int 20)], [], M)) (S2 := (344, [(0, .ref m0), (1, .int (nI pc)), (2, .int 20)], [], M)) rfl rfl rfl (fun c_341 => ?_) (fun c_341 => ?_)
  · exact absurd (of_decide_eq_true c_341) (by decide)
  refine ps_st (S' := (345, [(0, .ref m0), (1, .int (nI pc)), (2, .int 20)], [.int 20], M)) rfl rfl rfl ?_
  refine ps_st (S' := (347, [(0, .ref m0), (1, .int (nI pc)), (2, .int 20)], [.int 18, .int 20], M)) rfl rfl rfl ?_
  refine ps_if2 (S1 := (360, [(0, .ref m0), (1, .int (nI pc)), (2, .int 20)], [], M)) (S2 := (350, [(0, .ref m0), (1, .int (nI pc)), (2, .int 20)], [], M)) rfl rfl rfl (fun c_347 => ?_) (fun c_347 => ?_)
  rotate_left
  · exact absurd (by decide) (of_decide_eq_false c_347)
  refine ps_st (S' := (361, [(0, .ref m0), (1, .int (nI pc)), (2, .int 20)], [.ref m0], M)) rfl rfl rfl ?_
  refine ps_st (S' := (362, [(0, .ref m0), (1, .int (nI pc)), (2, .int 20)], [.int (nI pc), .ref m0], M)) rfl rfl rfl ?_
  refine ps_st (S' := (363, [(0, .ref m0), (1, .int (nI pc)), (2, .int 20)], [.int 1, .int (nI pc), .ref m0], M)) rfl rfl rfl ?_
  refine ps_st (S' := (364, [(0, .ref m0), (1, .int (nI pc)), (2, .int 20)], [.int ((nI pc) + 1), .ref m0], M)) rfl rfl rfl ?_
  rw [nI_add1 (p := pc) (k := 1) (x := 1) rfl (by omega)]
  show pl _ _ _ (_, [(0, .ref m0), (1, .int (nI pc)), (2, .int 20)], [.int (nI (pc + 1)), .ref m0], M) _
  refine pl_call (a := [.ref m0, .int (nI (pc + 1))]) (rest := []) rfl rfl rfl (rd_b2 (n := n) (f := f) (cb := cb) (p := (pc + 1)) hR hi77 hF (by omega)) (fun v1 M2 q3 => ?_)
  obtain ⟨rfl, rfl⟩ := q3
  show pl _ _ _ (367, [(0, .ref m0), (2, .int 20)], [.int (nI (by2 f (cb + (pc + 1))))], M) _
  show pl _ _ _ (_, [(0, .ref m0), (2, .int 20)], [.int (nI (by2 f (cb + pc + 1)))], M) _
  have hb_364 := by2_lt f (cb + pc + 1)
  refine ps_st (S' := (368, [(3, .int (nI (by2 f (cb + pc + 1)))), (0, .ref m0), (2, .int 20)], [], M)) rfl rfl rfl ?_
  refine ps_st (S' := (369, [(3, .int (nI (by2 f (cb + pc + 1)))), (0, .ref m0), (2, .int 20)], [.ref m0], M)) rfl rfl rfl ?_
  refine ps_st (S' := (370, [(3, .int (nI (by2 f (cb + pc + 1)))), (0, .ref m0), (2, .int 20)], [.int (nI (by2 f (cb + pc + 1))), .ref m0], M)) rfl rfl rfl ?_
  refine pl_call (a := [.ref m0, .int (nI (by2 f (cb + pc + 1)))]) (rest := []) rfl rfl rfl (rd_tag (n := n) (f := f) (tx := tx) (cN := cN) (A := A) (N := N) (mj := mj) (E := E) (k := (by2 f (cb + pc + 1))) hR hi51 hi52 hi53 hF hY hP (hEP) (hN) (hmj) (by2_lt _ _)) (fun v4 M5 q6 => ?_)
  obtain ⟨rfl, rfl⟩ := q6
  show pl _ _ _ (373, [(3, .int (nI (by2 f (cb + pc + 1)))), (0, .ref m0), (2, .int 20)], [.int (nI (tg f E (by2 f (cb + pc + 1))))], M) _
  have htg_370 := tg_lt f E (by2 f (cb + pc + 1))
  refine ps_st (S' := (375, [(4, .int (nI (tg f E (by2 f (cb + pc + 1))))), (3, .int (nI (by2 f (cb + pc + 1)))), (0, .ref m0), (2, .int 20)], [], M)) rfl rfl rfl ?_
  refine ps_st (S' := (376, [(4, .int (nI (tg f E (by2 f (cb + pc + 1))))), (3, .int (nI (by2 f (cb + pc + 1)))), (0, .ref m0), (2, .int 20)], [.int 20], M)) rfl rfl rfl ?_
  refine ps_st (S' := (378, [(4, .int (nI (tg f E (by2 f (cb + pc + 1))))), (3, .int (nI (by2 f (cb + pc + 1)))), (0, .ref m0), (2, .int 20)], [.int 20, .int 20], M)) rfl rfl rfl ?_
  refine ps_if2 (S1 := (420, [(4, .int (nI (tg f E (by2 f (cb + pc + 1))))), (3, .int (nI (by2 f (cb + pc + 1)))), (0, .ref m0), (2, .int 20)], [], M)) (S2 := (381, [(4, .int (nI (tg f E (by2 f (cb + pc + 1))))), (3, .int (nI (by2 f (cb + pc + 1)))), (0, .ref m0), (2, .int 20)], [], M)) rfl rfl rfl (fun c_378 => ?_) (fun c_378 => ?_)
  · exact absurd (of_decide_eq_true c_378) (by decide)
  refine ps_st (S' := (383, [(4, .int (nI (tg f E (by2 f (cb + pc + 1))))), (3, .int (nI (by2 f (cb + pc + 1)))), (0, .ref m0), (2, .int 20)], [.int (nI (tg f E (by2 f (cb + pc + 1))))], M)) rfl rfl rfl ?_
  refine ps_st (S' := (384, [(4, .int (nI (tg f E (by2 f (cb + pc + 1))))), (3, .int (nI (by2 f (cb + pc + 1)))), (0, .ref m0), (2, .int 20)], [.int 5, .int (nI (tg f E (by2 f (cb + pc + 1))))], M)) rfl rfl rfl ?_
  refine ps_if2 (S1 := (414, [], [], M)) (S2 := (387, [(4, .int (nI (tg f E (by2 f (cb + pc + 1))))), (3, .int (nI (by2 f (cb + pc + 1)))), (0, .ref m0), (2, .int 20)], [], M)) rfl rfl rfl (fun c_384 => ?_) (fun c_384 => ?_)
  · have c_384 : (nI (tg f E (by2 f (cb + pc + 1)))) = 5 := of_decide_eq_true c_384
    have n_384 : tg f E (by2 f (cb + pc + 1)) = 5 := (eq_nI (p := tg f E (by2 f (cb + pc + 1))) (n := 5) (Nat.lt_trans (tg_lt _ _ _) (by decide)) (by decide)).mp c_384
    refine ps_st (S' := (415, [], [.int 1], M)) rfl rfl rfl ?_
    refine ps_st (S' := (419, [], [.int 1], M)) rfl rfl rfl ?_
    exact ps_ret rfl rfl (⟨congrArg (fun x => some (Value.int (nI x))) (show 1 = ld2N f n E (by2 f (cb + pc + 1)) (tg f E (by2 f (cb + pc + 1))) from by
        unfold ld2N
        repeat first | rw [if_pos (by omega)] | rw [if_neg (by omega)]), rfl⟩)
  · have c_384 : ¬ ((nI (tg f E (by2 f (cb + pc + 1)))) = 5) := of_decide_eq_false c_384
    have n_384 : ¬ (tg f E (by2 f (cb + pc + 1)) = 5) := fun h9 => c_384 ((eq_nI (p := tg f E (by2 f (cb + pc + 1))) (n := 5) (Nat.lt_trans (tg_lt _ _ _) (by decide)) (by decide)).mpr h9)
    refine ps_st (S' := (389, [(4, .int (nI (tg f E (by2 f (cb + pc + 1))))), (3, .int (nI (by2 f (cb + pc + 1)))), (0, .ref m0), (2, .int 20)], [.int (nI (tg f E (by2 f (cb + pc + 1))))], M)) rfl rfl rfl ?_
    refine ps_st (S' := (391, [(4, .int (nI (tg f E (by2 f (cb + pc + 1))))), (3, .int (nI (by2 f (cb + pc + 1)))), (0, .ref m0), (2, .int 20)], [.int 6, .int (nI (tg f E (by2 f (cb + pc + 1))))], M)) rfl rfl rfl ?_
    refine ps_if2 (S1 := (414, [], [], M)) (S2 := (394, [(4, .int (nI (tg f E (by2 f (cb + pc + 1))))), (3, .int (nI (by2 f (cb + pc + 1)))), (0, .ref m0), (2, .int 20)], [], M)) rfl rfl rfl (fun c_391 => ?_) (fun c_391 => ?_)
    · have c_391 : (nI (tg f E (by2 f (cb + pc + 1)))) = 6 := of_decide_eq_true c_391
      have n_391 : tg f E (by2 f (cb + pc + 1)) = 6 := (eq_nI (p := tg f E (by2 f (cb + pc + 1))) (n := 6) (Nat.lt_trans (tg_lt _ _ _) (by decide)) (by decide)).mp c_391
      refine ps_st (S' := (415, [], [.int 1], M)) rfl rfl rfl ?_
      refine ps_st (S' := (419, [], [.int 1], M)) rfl rfl rfl ?_
      exact ps_ret rfl rfl (⟨congrArg (fun x => some (Value.int (nI x))) (show 1 = ld2N f n E (by2 f (cb + pc + 1)) (tg f E (by2 f (cb + pc + 1))) from by
          unfold ld2N
          repeat first | rw [if_pos (by omega)] | rw [if_neg (by omega)]), rfl⟩)
    · have c_391 : ¬ ((nI (tg f E (by2 f (cb + pc + 1)))) = 6) := of_decide_eq_false c_391
      have n_391 : ¬ (tg f E (by2 f (cb + pc + 1)) = 6) := fun h9 => c_391 ((eq_nI (p := tg f E (by2 f (cb + pc + 1))) (n := 6) (Nat.lt_trans (tg_lt _ _ _) (by decide)) (by decide)).mpr h9)
      refine ps_st (S' := (396, [(4, .int (nI (tg f E (by2 f (cb + pc + 1))))), (3, .int (nI (by2 f (cb + pc + 1)))), (0, .ref m0), (2, .int 20)], [.int (nI (tg f E (by2 f (cb + pc + 1))))], M)) rfl rfl rfl ?_
      refine ps_st (S' := (398, [(4, .int (nI (tg f E (by2 f (cb + pc + 1))))), (3, .int (nI (by2 f (cb + pc + 1)))), (0, .ref m0), (2, .int 20)], [.int 17, .int (nI (tg f E (by2 f (cb + pc + 1))))], M)) rfl rfl rfl ?_
      refine ps_if2 (S1 := (418, [], [], M)) (S2 := (401, [(4, .int (nI (tg f E (by2 f (cb + pc + 1))))), (3, .int (nI (by2 f (cb + pc + 1)))), (0, .ref m0), (2, .int 20)], [], M)) rfl rfl rfl (fun c_398 => ?_) (fun c_398 => ?_)
      · have c_398 : ¬ (nI (tg f E (by2 f (cb + pc + 1)))) = 17 := of_decide_eq_true c_398
        have n_398 : ¬ (tg f E (by2 f (cb + pc + 1)) = 17) := fun h9 => c_398 ((eq_nI (p := tg f E (by2 f (cb + pc + 1))) (n := 17) (Nat.lt_trans (tg_lt _ _ _) (by decide)) (by decide)).mpr h9)
        refine ps_st (S' := (419, [], [.int 0], M)) rfl rfl rfl ?_
        exact ps_ret rfl rfl (⟨congrArg (fun x => some (Value.int (nI x))) (show 0 = ld2N f n E (by2 f (cb + pc + 1)) (tg f E (by2 f (cb + pc + 1))) from by
            unfold ld2N
            repeat first | rw [if_pos (by omega)] | rw [if_neg (by omega)]), rfl⟩)
      · have c_398 : ¬ (¬ (nI (tg f E (by2 f (cb + pc + 1)))) = 17) := of_decide_eq_false c_398
        have n_398 : tg f E (by2 f (cb + pc + 1)) = 17 := (eq_nI (p := tg f E (by2 f (cb + pc + 1))) (n := 17) (Nat.lt_trans (tg_lt _ _ _) (by decide)) (by decide)).mp (Decidable.not_not.mp c_398)
        refine ps_st (S' := (402, [(4, .int (nI (tg f E (by2 f (cb + pc + 1))))), (3, .int (nI (by2 f (cb + pc + 1)))), (0, .ref m0), (2, .int 20)], [.ref m0], M)) rfl rfl rfl ?_
        refine ps_st (S' := (403, [(4, .int (nI (tg f E (by2 f (cb + pc + 1))))), (3, .int (nI (by2 f (cb + pc + 1)))), (0, .ref m0), (2, .int 20)], [.ref m0, .ref m0], M)) rfl rfl rfl ?_
        refine ps_st (S' := (404, [(4, .int (nI (tg f E (by2 f (cb + pc + 1))))), (3, .int (nI (by2 f (cb + pc + 1)))), (0, .ref m0), (2, .int 20)], [.int (nI (by2 f (cb + pc + 1))), .ref m0, .ref m0], M)) rfl rfl rfl ?_
        refine pl_call (a := [.ref m0, .int (nI (by2 f (cb + pc + 1)))]) (rest := [.ref m0]) rfl rfl rfl (rd_descOf (n := n) (f := f) (tx := tx) (cN := cN) (A := A) (N := N) (mj := mj) (E := E) (k := (by2 f (cb + pc + 1))) hR hi51 hi52 hi53 hF hY hP (hEP) (hN) (hmj) (by omega) ((hPF (by2 f (cb + pc + 1))).1 (by omega) |>.1) ((hPF (by2 f (cb + pc + 1))).1 (by omega) |>.2.2)) (fun v7 M8 q9 => ?_)
        obtain ⟨s10, q404_s, rfl, rfl⟩ := q9
        show pl _ _ _ (407, [(4, .int (nI (tg f E (by2 f (cb + pc + 1))))), (3, .int (nI (by2 f (cb + pc + 1)))), (0, .ref m0), (2, .int 20)], [.int (nI s10), .ref m0], M) _
        have hsl_404 := q404_s.1
        have htl_404 := hY.1.2.2.1
        refine ps_st (S' := (408, [(4, .int (nI (tg f E (by2 f (cb + pc + 1))))), (3, .int (nI (by2 f (cb + pc + 1)))), (0, .ref m0), (2, .int 20)], [.int 0, .int (nI s10), .ref m0], M)) rfl rfl rfl ?_
        have hfl_408 := (hPF (by2 f (cb + pc + 1))).2.1 (by omega)
        have hf0_408 := (fld_sh hfl_408).2
        refine pl_call (a := [.ref m0, .int (nI s10), .int 0]) (rest := []) rfl rfl rfl (rd_wide (tx := tx) (cN := cN) (A := A) (s := s10) (l := (tX f n E (se f E (se f E (by2 f (cb + pc + 1)))))) (k := 0) hR hY (q404_s) (hf0_408)) (fun v11 M12 q13 => ?_)
        obtain ⟨rfl, rfl⟩ := q13
        show pl _ _ _ (411, [(4, .int (nI (tg f E (by2 f (cb + pc + 1))))), (3, .int (nI (by2 f (cb + pc + 1)))), (0, .ref m0), (2, .int 20)], [.int (nI (wdN ((tX f n E (se f E (se f E (by2 f (cb + pc + 1))))).getD 0 0)))], M) _
        have hwd_408 := le1_wd ((tX f n E (se f E (se f E (by2 f (cb + pc + 1))))).getD 0 0)
        have hd1_408 := dc_1 ((hPF (by2 f (cb + pc + 1))).1 (by omega)).2.2 hfl_408
        have hd2_408 := dc_2 ((hPF (by2 f (cb + pc + 1))).1 (by omega)).2.2 hfl_408
        refine ps_if (S1 := (418, [], [], M)) (S2 := (414, [], [], M)) rfl rfl rfl (fun c_411 => ?_) (fun c_411 => ?_)
        · have c_411 : (nI (wdN ((tX f n E (se f E (se f E (by2 f (cb + pc + 1))))).getD 0 0))) = 0 := of_decide_eq_true c_411
          have n_411 : wdN ((tX f n E (se f E (se f E (by2 f (cb + pc + 1))))).getD 0 0) = 0 := (eq_nI (p := wdN ((tX f n E (se f E (se f E (by2 f (cb + pc + 1))))).getD 0 0)) (n := 0) (Nat.lt_trans (le1_wd _) (by decide)) (by decide)).mp c_411
          refine ps_st (S' := (419, [], [.int 0], M)) rfl rfl rfl ?_
          exact ps_ret rfl rfl (⟨congrArg (fun x => some (Value.int (nI x))) (show 0 = ld2N f n E (by2 f (cb + pc + 1)) (tg f E (by2 f (cb + pc + 1))) from by
              unfold ld2N
              repeat first | rw [if_pos (by omega)] | rw [if_neg (by omega)]
              rw [if_neg (fun h9 => absurd n_411 (hd2_408.mp h9.2))]), rfl⟩)
        · have c_411 : ¬ ((nI (wdN ((tX f n E (se f E (se f E (by2 f (cb + pc + 1))))).getD 0 0))) = 0) := of_decide_eq_false c_411
          have n_411 : ¬ (wdN ((tX f n E (se f E (se f E (by2 f (cb + pc + 1))))).getD 0 0) = 0) := fun h9 => c_411 ((eq_nI (p := wdN ((tX f n E (se f E (se f E (by2 f (cb + pc + 1))))).getD 0 0)) (n := 0) (Nat.lt_trans (le1_wd _) (by decide)) (by decide)).mpr h9)
          refine ps_st (S' := (415, [], [.int 1], M)) rfl rfl rfl ?_
          refine ps_st (S' := (419, [], [.int 1], M)) rfl rfl rfl ?_
          exact ps_ret rfl rfl (⟨congrArg (fun x => some (Value.int (nI x))) (show 1 = ld2N f n E (by2 f (cb + pc + 1)) (tg f E (by2 f (cb + pc + 1))) from by
              unfold ld2N
              repeat first | rw [if_pos (by omega)] | rw [if_neg (by omega)]
              rw [if_pos ⟨by omega, hd2_408.mpr n_411⟩]), rfl⟩)
set_option maxHeartbeats 1000000 in
theorem rd_op178 {g : xe_G} {m0 : Nat} {q : Nat → Nat} {z : Nat × Nat} {I : rI} {R : rR} {M : mi_H} {n : Nat} {f : Nat → Int32} {tx : List (List Nat)} {cN : Nat} {A : Nat → Nat} {N mj : Nat} {E : List (Nat × Nat)} {cb ml s9 pc : Nat} {op : Nat} (hR : RS g m0 q z I R M) (hi51 : I 51 = some 0) (hi52 : I 52 = some (nI N)) (hi53 : I 53 = some (nI mj)) (hi77 : I 77 = some (nI cb)) (hi79 : I 79 = some (nI ml)) (hi9 : I 9 = some (nI s9)) (hF : FK n f I R) (hY : SYT tx cN A I R) (hP : RPV f n E tx N I R) (hEP : EP f n E) (hN : N < 65536) (hmj : mj < 65536) (hml : ml < 65536) (hs9 : s9 < tx.length ∧ tx.getD s9 [] = ltx 14) (hCP : CP f n E) (hPF : PF f n E) (hin : cb + pc + 3 ≤ n) (ho : 178 ≤ op ∧ op ≤ 181) : pt (mT g) 228 [.ref m0, .int (nI pc), .int (nI op)] M (fun v M' => (v = some (.int (nI (if tg f E (by2 f (cb + pc + 1)) = 9 then 1 else 0))) ∧ M = M')) := by
  refine pt_in (b := mb_228 g) rfl (fun kf => ?_)
  show pl (mT g) kf (mb_228 g).2 (0, [(0, .ref m0), (1, .int (nI pc)), (2, .int (nI op))], [], M) _
  have hn := hF.1
  have htl := hY.1.2.2.1
  refine ps_st (S' := (1, [(0, .ref m0), (1, .int (nI pc)), (2, .int (nI op))], [.int (nI op)], M)) rfl rfl rfl ?_
  refine ps_st (S' := (4, [(0, .ref m0), (1, .int (nI pc)), (2, .int (nI op))], [.int 168, .int (nI op)], M)) rfl rfl rfl ?_
  refine ps_if2 (S1 := (21, [(0, .ref m0), (1, .int (nI pc)), (2, .int (nI op))], [], M)) (S2 := (7, [(0, .ref m0), (1, .int (nI pc)), (2, .int (nI op))], [], M)) rfl rfl rfl (fun c_4 => ?_) (fun c_4 => ?_)
  · exact absurd (of_decide_eq_true c_4) (show ¬ ((nI op) = 168) from fun h9 => absurd ((eq_nI (p := op) (n := 168) (by omega) (by decide)).mp h9) (by omega))
  refine ps_st (S' := (8, [(0, .ref m0), (1, .int (nI pc)), (2, .int (nI op))], [.int (nI op)], M)) rfl rfl rfl ?_
  refine ps_st (S' := (11, [(0, .ref m0), (1, .int (nI pc)), (2, .int (nI op))], [.int 169, .int (nI op)], M)) rfl rfl rfl ?_
  refine ps_if2 (S1 := (21, [(0, .ref m0), (1, .int (nI pc)), (2, .int (nI op))], [], M)) (S2 := (14, [(0, .ref m0), (1, .int (nI pc)), (2, .int (nI op))], [], M)) rfl rfl rfl (fun c_11 => ?_) (fun c_11 => ?_)
  · exact absurd (of_decide_eq_true c_11) (show ¬ ((nI op) = 169) from fun h9 => absurd ((eq_nI (p := op) (n := 169) (by omega) (by decide)).mp h9) (by omega))
  refine ps_st (S' := (15, [(0, .ref m0), (1, .int (nI pc)), (2, .int (nI op))], [.int (nI op)], M)) rfl rfl rfl ?_
  refine ps_st (S' := (18, [(0, .ref m0), (1, .int (nI pc)), (2, .int (nI op))], [.int 201, .int (nI op)], M)) rfl rfl rfl ?_
  refine ps_if2 (S1 := (58, [(0, .ref m0), (1, .int (nI pc)), (2, .int (nI op))], [], M)) (S2 := (21, [(0, .ref m0), (1, .int (nI pc)), (2, .int (nI op))], [], M)) rfl rfl rfl (fun c_18 => ?_) (fun c_18 => ?_)
  rotate_left
  · exact absurd (show ¬ ((nI op) = 201) from fun h9 => absurd ((eq_nI (p := op) (n := 201) (by omega) (by decide)).mp h9) (by omega)) (of_decide_eq_false c_18)
  refine ps_st (S' := (59, [(0, .ref m0), (1, .int (nI pc)), (2, .int (nI op))], [.int (nI op)], M)) rfl rfl rfl ?_
  refine ps_st (S' := (61, [(0, .ref m0), (1, .int (nI pc)), (2, .int (nI op))], [.int 21, .int (nI op)], M)) rfl rfl rfl ?_
  refine ps_if2 (S1 := (70, [(0, .ref m0), (1, .int (nI pc)), (2, .int (nI op))], [], M)) (S2 := (64, [(0, .ref m0), (1, .int (nI pc)), (2, .int (nI op))], [], M)) rfl rfl rfl (fun c_61 => ?_) (fun c_61 => ?_)
  · exact absurd (of_decide_eq_true c_61) (show ¬ ((nI op) < 21) from fun h9 => absurd ((lt_nI (p := op) (n := 21) (by omega) (by decide)).mp h9) (by omega))
  refine ps_st (S' := (65, [(0, .ref m0), (1, .int (nI pc)), (2, .int (nI op))], [.int (nI op)], M)) rfl rfl rfl ?_
  refine ps_st (S' := (67, [(0, .ref m0), (1, .int (nI pc)), (2, .int (nI op))], [.int 25, .int (nI op)], M)) rfl rfl rfl ?_
  refine ps_if2 (S1 := (82, [(0, .ref m0), (1, .int (nI pc)), (2, .int (nI op))], [], M)) (S2 := (70, [(0, .ref m0), (1, .int (nI pc)), (2, .int (nI op))], [], M)) rfl rfl rfl (fun c_67 => ?_) (fun c_67 => ?_)
  · exact absurd (of_decide_eq_true c_67) (show ¬ ((nI op) ≤ 25) from fun h9 => absurd ((le_nI (p := op) (n := 25) (by omega) (by decide)).mp h9) (by omega))
  refine ps_st (S' := (71, [(0, .ref m0), (1, .int (nI pc)), (2, .int (nI op))], [.int (nI op)], M)) rfl rfl rfl ?_
  refine ps_st (S' := (73, [(0, .ref m0), (1, .int (nI pc)), (2, .int (nI op))], [.int 54, .int (nI op)], M)) rfl rfl rfl ?_
  refine ps_if2 (S1 := (127, [(0, .ref m0), (1, .int (nI pc)), (2, .int (nI op))], [], M)) (S2 := (76, [(0, .ref m0), (1, .int (nI pc)), (2, .int (nI op))], [], M)) rfl rfl rfl (fun c_73 => ?_) (fun c_73 => ?_)
  · exact absurd (of_decide_eq_true c_73) (show ¬ ((nI op) < 54) from fun h9 => absurd ((lt_nI (p := op) (n := 54) (by omega) (by decide)).mp h9) (by omega))
  refine ps_st (S' := (77, [(0, .ref m0), (1, .int (nI pc)), (2, .int (nI op))], [.int (nI op)], M)) rfl rfl rfl ?_
  refine ps_st (S' := (79, [(0, .ref m0), (1, .int (nI pc)), (2, .int (nI op))], [.int 58, .int (nI op)], M)) rfl rfl rfl ?_
  refine ps_if2 (S1 := (127, [(0, .ref m0), (1, .int (nI pc)), (2, .int (nI op))], [], M)) (S2 := (82, [(0, .ref m0), (1, .int (nI pc)), (2, .int (nI op))], [], M)) rfl rfl rfl (fun c_79 => ?_) (fun c_79 => ?_)
  rotate_left
  · exact absurd ((lt_nI (p := 58) (n := op) (by decide) (by omega)).mpr (by omega)) (of_decide_eq_false c_79)
  refine ps_st (S' := (128, [(0, .ref m0), (1, .int (nI pc)), (2, .int (nI op))], [.int (nI op)], M)) rfl rfl rfl ?_
  refine ps_st (S' := (130, [(0, .ref m0), (1, .int (nI pc)), (2, .int (nI op))], [.int 26, .int (nI op)], M)) rfl rfl rfl ?_
  refine ps_if2 (S1 := (139, [(0, .ref m0), (1, .int (nI pc)), (2, .int (nI op))], [], M)) (S2 := (133, [(0, .ref m0), (1, .int (nI pc)), (2, .int (nI op))], [], M)) rfl rfl rfl (fun c_130 => ?_) (fun c_130 => ?_)
  · exact absurd (of_decide_eq_true c_130) (show ¬ ((nI op) < 26) from fun h9 => absurd ((lt_nI (p := op) (n := 26) (by omega) (by decide)).mp h9) (by omega))
  refine ps_st (S' := (134, [(0, .ref m0), (1, .int (nI pc)), (2, .int (nI op))], [.int (nI op)], M)) rfl rfl rfl ?_
  refine ps_st (S' := (136, [(0, .ref m0), (1, .int (nI pc)), (2, .int (nI op))], [.int 45, .int (nI op)], M)) rfl rfl rfl ?_
  refine ps_if2 (S1 := (151, [(0, .ref m0), (2, .int (nI op))], [], M)) (S2 := (139, [(0, .ref m0), (1, .int (nI pc)), (2, .int (nI op))], [], M)) rfl rfl rfl (fun c_136 => ?_) (fun c_136 => ?_)
  · exact absurd (of_decide_eq_true c_136) (show ¬ ((nI op) ≤ 45) from fun h9 => absurd ((le_nI (p := op) (n := 45) (by omega) (by decide)).mp h9) (by omega))
  refine ps_st (S' := (140, [(0, .ref m0), (1, .int (nI pc)), (2, .int (nI op))], [.int (nI op)], M)) rfl rfl rfl ?_
  refine ps_st (S' := (142, [(0, .ref m0), (1, .int (nI pc)), (2, .int (nI op))], [.int 59, .int (nI op)], M)) rfl rfl rfl ?_
  refine ps_if2 (S1 := (196, [(0, .ref m0), (1, .int (nI pc)), (2, .int (nI op))], [], M)) (S2 := (145, [(0, .ref m0), (1, .int (nI pc)), (2, .int (nI op))], [], M)) rfl rfl rfl (fun c_142 => ?_) (fun c_142 => ?_)
  · exact absurd (of_decide_eq_true c_142) (show ¬ ((nI op) < 59) from fun h9 => absurd ((lt_nI (p := op) (n := 59) (by omega) (by decide)).mp h9) (by omega))
  refine ps_st (S' := (146, [(0, .ref m0), (1, .int (nI pc)), (2, .int (nI op))], [.int (nI op)], M)) rfl rfl rfl ?_
  refine ps_st (S' := (148, [(0, .ref m0), (1, .int (nI pc)), (2, .int (nI op))], [.int 78, .int (nI op)], M)) rfl rfl rfl ?_
  refine ps_if2 (S1 := (196, [(0, .ref m0), (1, .int (nI pc)), (2, .int (nI op))], [], M)) (S2 := (151, [(0, .ref m0), (2, .int (nI op))], [], M)) rfl rfl rfl (fun c_148 => ?_) (fun c_148 => ?_)
  rotate_left
  · exact absurd ((lt_nI (p := 78) (n := op) (by decide) (by omega)).mpr (by omega)) (of_decide_eq_false c_148)
  refine ps_st (S' := (197, [(0, .ref m0), (1, .int (nI pc)), (2, .int (nI op))], [.int (nI op)], M)) rfl rfl rfl ?_
  refine ps_st (S' := (200, [(0, .ref m0), (1, .int (nI pc)), (2, .int (nI op))], [.int 132, .int (nI op)], M)) rfl rfl rfl ?_
  refine ps_if2 (S1 := (216, [(0, .ref m0), (1, .int (nI pc)), (2, .int (nI op))], [], M)) (S2 := (203, [(0, .ref m0), (1, .int (nI pc)), (2, .int (nI op))], [], M)) rfl rfl rfl (fun c_200 => ?_) (fun c_200 => ?_)
  rotate_left
  · exact absurd (show ¬ ((nI op) = 132) from fun h9 => absurd ((eq_nI (p := op) (n := 132) (by omega) (by decide)).mp h9) (by omega)) (of_decide_eq_false c_200)
  refine ps_st (S' := (217, [(0, .ref m0), (1, .int (nI pc)), (2, .int (nI op))], [.int (nI op)], M)) rfl rfl rfl ?_
  refine ps_st (S' := (220, [(0, .ref m0), (1, .int (nI pc)), (2, .int (nI op))], [.int 196, .int (nI op)], M)) rfl rfl rfl ?_
  refine ps_if2 (S1 := (296, [(0, .ref m0), (1, .int (nI pc)), (2, .int (nI op))], [], M)) (S2 := (223, [(0, .ref m0), (1, .int (nI pc)), (2, .int (nI op))], [], M)) rfl rfl rfl (fun c_220 => ?_) (fun c_220 => ?_)
  rotate_left
  · exact absurd (show ¬ ((nI op) = 196) from fun h9 => absurd ((eq_nI (p := op) (n := 196) (by omega) (by decide)).mp h9) (by omega)) (of_decide_eq_false c_220)
  refine ps_st (S' := (297, [(0, .ref m0), (1, .int (nI pc)), (2, .int (nI op))], [.int (nI op)], M)) rfl rfl rfl ?_
  refine ps_st (S' := (300, [(0, .ref m0), (1, .int (nI pc)), (2, .int (nI op))], [.int 188, .int (nI op)], M)) rfl rfl rfl ?_
  refine ps_if2 (S1 := (332, [(0, .ref m0), (1, .int (nI pc)), (2, .int (nI op))], [], M)) (S2 := (303, [(0, .ref m0), (1, .int (nI pc)), (2, .int (nI op))], [], M)) rfl rfl rfl (fun c_300 => ?_) (fun c_300 => ?_)
  rotate_left
  · exact absurd (show ¬ ((nI op) = 188) from fun h9 => absurd ((eq_nI (p := op) (n := 188) (by omega) (by decide)).mp h9) (by omega)) (of_decide_eq_false c_300)
  refine ps_st (S' := (333, [(0, .ref m0), (1, .int (nI pc)), (2, .int (nI op))], [.int (nI op)], M)) rfl rfl rfl ?_
  refine ps_st (S' := (335, [(0, .ref m0), (1, .int (nI pc)), (2, .int (nI op))], [.int 18, .int (nI op)], M)) rfl rfl rfl ?_
  refine ps_if2 (S1 := (513, [(0, .ref m0), (1, .int (nI pc)), (2, .int (nI op))], [], M)) (S2 := (338, [(0, .ref m0), (1, .int (nI pc)), (2, .int (nI op))], [], M)) rfl rfl rfl (fun c_335 => ?_) (fun c_335 => ?_)
  · exact absurd (of_decide_eq_true c_335) (show ¬ ((nI op) < 18) from fun h9 => absurd ((lt_nI (p := op) (n := 18) (by omega) (by decide)).mp h9) (by omega))
  refine ps_st (S' := (339, [(0, .ref m0), (1, .int (nI pc)), (2, .int (nI op))], [.int (nI op)], M)) rfl rfl rfl ?_
  refine ps_st (S' := (341, [(0, .ref m0), (1, .int (nI pc)), (2, .int (nI op))], [.int 20, .int (nI op)], M)) rfl rfl rfl ?_
  refine ps_if2 (S1 := (513, [(0, .ref m0), (1, .int (nI pc)), (2, .int (nI op))], [], M)) (S2 := (344, [(0, .ref m0), (1, .int (nI pc)), (2, .int (nI op))], [], M)) rfl rfl rfl (fun c_341 => ?_) (fun c_341 => ?_)
  rotate_left
  · exact absurd ((lt_nI (p := 20) (n := op) (by decide) (by omega)).mpr (by omega)) (of_decide_eq_false c_341)
  refine ps_st (S' := (514, [(0, .ref m0), (1, .int (nI pc)), (2, .int (nI op))], [.int (nI op)], M)) rfl rfl rfl ?_
  refine ps_st (S' := (517, [(0, .ref m0), (1, .int (nI pc)), (2, .int (nI op))], [.int 178, .int (nI op)], M)) rfl rfl rfl ?_
  refine ps_if2 (S1 := (549, [(0, .ref m0), (1, .int (nI pc)), (2, .int (nI op))], [], M)) (S2 := (520, [(0, .ref m0), (1, .int (nI pc)), (2, .int (nI op))], [], M)) rfl rfl rfl (fun c_517 => ?_) (fun c_517 => ?_)
  · exact absurd (of_decide_eq_true c_517) (show ¬ ((nI op) < 178) from fun h9 => absurd ((lt_nI (p := op) (n := 178) (by omega) (by decide)).mp h9) (by omega))
  refine ps_st (S' := (521, [(0, .ref m0), (1, .int (nI pc)), (2, .int (nI op))], [.int (nI op)], M)) rfl rfl rfl ?_
  refine ps_st (S' := (524, [(0, .ref m0), (1, .int (nI pc)), (2, .int (nI op))], [.int 181, .int (nI op)], M)) rfl rfl rfl ?_
  refine ps_if2 (S1 := (549, [(0, .ref m0), (1, .int (nI pc)), (2, .int (nI op))], [], M)) (S2 := (527, [(0, .ref m0), (1, .int (nI pc)), (2, .int (nI op))], [], M)) rfl rfl rfl (fun c_524 => ?_) (fun c_524 => ?_)
  · exact absurd (of_decide_eq_true c_524) (show ¬ (181 < (nI op)) from fun h9 => absurd ((lt_nI (p := 181) (n := op) (by decide) (by omega)).mp h9) (by omega))
  refine ps_st (S' := (528, [(0, .ref m0), (1, .int (nI pc)), (2, .int (nI op))], [.ref m0], M)) rfl rfl rfl ?_
  refine ps_st (S' := (529, [(0, .ref m0), (1, .int (nI pc)), (2, .int (nI op))], [.ref m0, .ref m0], M)) rfl rfl rfl ?_
  refine ps_st (S' := (530, [(0, .ref m0), (1, .int (nI pc)), (2, .int (nI op))], [.int (nI pc), .ref m0, .ref m0], M)) rfl rfl rfl ?_
  refine ps_st (S' := (531, [(0, .ref m0), (1, .int (nI pc)), (2, .int (nI op))], [.int 1, .int (nI pc), .ref m0, .ref m0], M)) rfl rfl rfl ?_
  refine ps_st (S' := (532, [(0, .ref m0), (1, .int (nI pc)), (2, .int (nI op))], [.int ((nI pc) + 1), .ref m0, .ref m0], M)) rfl rfl rfl ?_
  rw [nI_add1 (p := pc) (k := 1) (x := 1) rfl (by omega)]
  show pl _ _ _ (_, [(0, .ref m0), (1, .int (nI pc)), (2, .int (nI op))], [.int (nI (pc + 1)), .ref m0, .ref m0], M) _
  refine pl_call (a := [.ref m0, .int (nI (pc + 1))]) (rest := [.ref m0]) rfl rfl rfl (rd_b2 (n := n) (f := f) (cb := cb) (p := (pc + 1)) hR hi77 hF (by omega)) (fun v1 M2 q3 => ?_)
  obtain ⟨rfl, rfl⟩ := q3
  show pl _ _ _ (535, [(0, .ref m0), (1, .int (nI pc)), (2, .int (nI op))], [.int (nI (by2 f (cb + (pc + 1)))), .ref m0], M) _
  show pl _ _ _ (_, [(0, .ref m0), (1, .int (nI pc)), (2, .int (nI op))], [.int (nI (by2 f (cb + pc + 1))), .ref m0], M) _
  have hb_532 := by2_lt f (cb + pc + 1)
  refine pl_call (a := [.ref m0, .int (nI (by2 f (cb + pc + 1)))]) (rest := []) rfl rfl rfl (rd_tag (n := n) (f := f) (tx := tx) (cN := cN) (A := A) (N := N) (mj := mj) (E := E) (k := (by2 f (cb + pc + 1))) hR hi51 hi52 hi53 hF hY hP (hEP) (hN) (hmj) (by2_lt _ _)) (fun v4 M5 q6 => ?_)
  obtain ⟨rfl, rfl⟩ := q6
  show pl _ _ _ (538, [(0, .ref m0), (1, .int (nI pc)), (2, .int (nI op))], [.int (nI (tg f E (by2 f (cb + pc + 1))))], M) _
  have htg_535 := tg_lt f E (by2 f (cb + pc + 1))
  refine ps_st (S' := (540, [(0, .ref m0), (1, .int (nI pc)), (2, .int (nI op))], [.int 9, .int (nI (tg f E (by2 f (cb + pc + 1))))], M)) rfl rfl rfl ?_
  refine ps_if2 (S1 := (547, [(0, .ref m0), (1, .int (nI pc)), (2, .int (nI op))], [], M)) (S2 := (543, [(0, .ref m0), (1, .int (nI pc)), (2, .int (nI op))], [], M)) rfl rfl rfl (fun c_540 => ?_) (fun c_540 => ?_)
  · have c_540 : ¬ (nI (tg f E (by2 f (cb + pc + 1)))) = 9 := of_decide_eq_true c_540
    have n_540 : ¬ (tg f E (by2 f (cb + pc + 1)) = 9) := fun h9 => c_540 ((eq_nI (p := tg f E (by2 f (cb + pc + 1))) (n := 9) (Nat.lt_trans (tg_lt _ _ _) (by decide)) (by decide)).mpr h9)
    refine ps_st (S' := (548, [], [.int 0], M)) rfl rfl rfl ?_
    exact ps_ret rfl rfl (⟨congrArg (fun x => some (Value.int (nI x))) (show 0 = if tg f E (by2 f (cb + pc + 1)) = 9 then 1 else 0 from by
        first | ((repeat first | rw [if_pos (by omega)] | rw [if_neg (by omega)]) <;> first | rfl | omega) | ((repeat' split) <;> first | rfl | (exfalso; omega) | omega)), rfl⟩)
  · have c_540 : ¬ (¬ (nI (tg f E (by2 f (cb + pc + 1)))) = 9) := of_decide_eq_false c_540
    have n_540 : tg f E (by2 f (cb + pc + 1)) = 9 := (eq_nI (p := tg f E (by2 f (cb + pc + 1))) (n := 9) (Nat.lt_trans (tg_lt _ _ _) (by decide)) (by decide)).mp (Decidable.not_not.mp c_540)
    refine ps_st (S' := (544, [(0, .ref m0), (1, .int (nI pc)), (2, .int (nI op))], [.int 1], M)) rfl rfl rfl ?_
    refine ps_st (S' := (548, [], [.int 1], M)) rfl rfl rfl ?_
    exact ps_ret rfl rfl (⟨congrArg (fun x => some (Value.int (nI x))) (show 1 = if tg f E (by2 f (cb + pc + 1)) = 9 then 1 else 0 from by
        first | ((repeat first | rw [if_pos (by omega)] | rw [if_neg (by omega)]) <;> first | rfl | omega) | ((repeat' split) <;> first | rfl | (exfalso; omega) | omega)), rfl⟩)
set_option maxHeartbeats 1000000 in
theorem rd_op182 {g : xe_G} {m0 : Nat} {q : Nat → Nat} {z : Nat × Nat} {I : rI} {R : rR} {M : mi_H} {n : Nat} {f : Nat → Int32} {tx : List (List Nat)} {cN : Nat} {A : Nat → Nat} {N mj : Nat} {E : List (Nat × Nat)} {cb ml s9 pc : Nat} (hR : RS g m0 q z I R M) (hi51 : I 51 = some 0) (hi52 : I 52 = some (nI N)) (hi53 : I 53 = some (nI mj)) (hi77 : I 77 = some (nI cb)) (hi79 : I 79 = some (nI ml)) (hi9 : I 9 = some (nI s9)) (hF : FK n f I R) (hY : SYT tx cN A I R) (hP : RPV f n E tx N I R) (hEP : EP f n E) (hN : N < 65536) (hmj : mj < 65536) (hml : ml < 65536) (hs9 : s9 < tx.length ∧ tx.getD s9 [] = ltx 14) (hCP : CP f n E) (hPF : PF f n E) (hin : cb + pc + 3 ≤ n) : pt (mT g) 228 [.ref m0, .int (nI pc), .int 182] M (fun v M' => (v = some (.int (nI (if tg f E (by2 f (cb + pc + 1)) = 10 ∧ niN f n E (by2 f (cb + pc + 1)) = 0 then 1 else 0))) ∧ M = M')) := by
  refine pt_in (b := mb_228 g) rfl (fun kf => ?_)
  show pl (mT g) kf (mb_228 g).2 (0, [(0, .ref m0), (1, .int (nI pc)), (2, .int 182)], [], M) _
  have hn := hF.1
  have htl := hY.1.2.2.1
  refine ps_st (S' := (1, [(0, .ref m0), (1, .int (nI pc)), (2, .int 182)], [.int 182], M)) rfl rfl rfl ?_
  refine ps_st (S' := (4, [(0, .ref m0), (1, .int (nI pc)), (2, .int 182)], [.int 168, .int 182], M)) rfl rfl rfl ?_
  refine ps_if2 (S1 := (21, [(0, .ref m0), (1, .int (nI pc)), (2, .int 182)], [], M)) (S2 := (7, [(0, .ref m0), (1, .int (nI pc)), (2, .int 182)], [], M)) rfl rfl rfl (fun c_4 => ?_) (fun c_4 => ?_)
  · exact absurd (of_decide_eq_true c_4) (by decide)
  refine ps_st (S' := (8, [(0, .ref m0), (1, .int (nI pc)), (2, .int 182)], [.int 182], M)) rfl rfl rfl ?_
  refine ps_st (S' := (11, [(0, .ref m0), (1, .int (nI pc)), (2, .int 182)], [.int 169, .int 182], M)) rfl rfl rfl ?_
  refine ps_if2 (S1 := (21, [(0, .ref m0), (1, .int (nI pc)), (2, .int 182)], [], M)) (S2 := (14, [(0, .ref m0), (1, .int (nI pc)), (2, .int 182)], [], M)) rfl rfl rfl (fun c_11 => ?_) (fun c_11 => ?_)
  · exact absurd (of_decide_eq_true c_11) (by decide)
  refine ps_st (S' := (15, [(0, .ref m0), (1, .int (nI pc)), (2, .int 182)], [.int 182], M)) rfl rfl rfl ?_
  refine ps_st (S' := (18, [(0, .ref m0), (1, .int (nI pc)), (2, .int 182)], [.int 201, .int 182], M)) rfl rfl rfl ?_
  refine ps_if2 (S1 := (58, [(0, .ref m0), (1, .int (nI pc)), (2, .int 182)], [], M)) (S2 := (21, [(0, .ref m0), (1, .int (nI pc)), (2, .int 182)], [], M)) rfl rfl rfl (fun c_18 => ?_) (fun c_18 => ?_)
  rotate_left
  · exact absurd (by decide) (of_decide_eq_false c_18)
  refine ps_st (S' := (59, [(0, .ref m0), (1, .int (nI pc)), (2, .int 182)], [.int 182], M)) rfl rfl rfl ?_
  refine ps_st (S' := (61, [(0, .ref m0), (1, .int (nI pc)), (2, .int 182)], [.int 21, .int 182], M)) rfl rfl rfl ?_
  refine ps_if2 (S1 := (70, [(0, .ref m0), (1, .int (nI pc)), (2, .int 182)], [], M)) (S2 := (64, [(0, .ref m0), (1, .int (nI pc)), (2, .int 182)], [], M)) rfl rfl rfl (fun c_61 => ?_) (fun c_61 => ?_)
  · exact absurd (of_decide_eq_true c_61) (by decide)
  refine ps_st (S' := (65, [(0, .ref m0), (1, .int (nI pc)), (2, .int 182)], [.int 182], M)) rfl rfl rfl ?_
  refine ps_st (S' := (67, [(0, .ref m0), (1, .int (nI pc)), (2, .int 182)], [.int 25, .int 182], M)) rfl rfl rfl ?_
  refine ps_if2 (S1 := (82, [(0, .ref m0), (1, .int (nI pc)), (2, .int 182)], [], M)) (S2 := (70, [(0, .ref m0), (1, .int (nI pc)), (2, .int 182)], [], M)) rfl rfl rfl (fun c_67 => ?_) (fun c_67 => ?_)
  · exact absurd (of_decide_eq_true c_67) (by decide)
  refine ps_st (S' := (71, [(0, .ref m0), (1, .int (nI pc)), (2, .int 182)], [.int 182], M)) rfl rfl rfl ?_
  refine ps_st (S' := (73, [(0, .ref m0), (1, .int (nI pc)), (2, .int 182)], [.int 54, .int 182], M)) rfl rfl rfl ?_
  refine ps_if2 (S1 := (127, [(0, .ref m0), (1, .int (nI pc)), (2, .int 182)], [], M)) (S2 := (76, [(0, .ref m0), (1, .int (nI pc)), (2, .int 182)], [], M)) rfl rfl rfl (fun c_73 => ?_) (fun c_73 => ?_)
  · exact absurd (of_decide_eq_true c_73) (by decide)
  refine ps_st (S' := (77, [(0, .ref m0), (1, .int (nI pc)), (2, .int 182)], [.int 182], M)) rfl rfl rfl ?_
  refine ps_st (S' := (79, [(0, .ref m0), (1, .int (nI pc)), (2, .int 182)], [.int 58, .int 182], M)) rfl rfl rfl ?_
  refine ps_if2 (S1 := (127, [(0, .ref m0), (1, .int (nI pc)), (2, .int 182)], [], M)) (S2 := (82, [(0, .ref m0), (1, .int (nI pc)), (2, .int 182)], [], M)) rfl rfl rfl (fun c_79 => ?_) (fun c_79 => ?_)
  rotate_left
  · exact absurd (by decide) (of_decide_eq_false c_79)
  refine ps_st (S' := (128, [(0, .ref m0), (1, .int (nI pc)), (2, .int 182)], [.int 182], M)) rfl rfl rfl ?_
  refine ps_st (S' := (130, [(0, .ref m0), (1, .int (nI pc)), (2, .int 182)], [.int 26, .int 182], M)) rfl rfl rfl ?_
  refine ps_if2 (S1 := (139, [(0, .ref m0), (1, .int (nI pc)), (2, .int 182)], [], M)) (S2 := (133, [(0, .ref m0), (1, .int (nI pc)), (2, .int 182)], [], M)) rfl rfl rfl (fun c_130 => ?_) (fun c_130 => ?_)
  · exact absurd (of_decide_eq_true c_130) (by decide)
  refine ps_st (S' := (134, [(0, .ref m0), (1, .int (nI pc)), (2, .int 182)], [.int 182], M)) rfl rfl rfl ?_
  refine ps_st (S' := (136, [(0, .ref m0), (1, .int (nI pc)), (2, .int 182)], [.int 45, .int 182], M)) rfl rfl rfl ?_
  refine ps_if2 (S1 := (151, [(0, .ref m0), (2, .int 182)], [], M)) (S2 := (139, [(0, .ref m0), (1, .int (nI pc)), (2, .int 182)], [], M)) rfl rfl rfl (fun c_136 => ?_) (fun c_136 => ?_)
  · exact absurd (of_decide_eq_true c_136) (by decide)
  refine ps_st (S' := (140, [(0, .ref m0), (1, .int (nI pc)), (2, .int 182)], [.int 182], M)) rfl rfl rfl ?_
  refine ps_st (S' := (142, [(0, .ref m0), (1, .int (nI pc)), (2, .int 182)], [.int 59, .int 182], M)) rfl rfl rfl ?_
  refine ps_if2 (S1 := (196, [(0, .ref m0), (1, .int (nI pc)), (2, .int 182)], [], M)) (S2 := (145, [(0, .ref m0), (1, .int (nI pc)), (2, .int 182)], [], M)) rfl rfl rfl (fun c_142 => ?_) (fun c_142 => ?_)
  · exact absurd (of_decide_eq_true c_142) (by decide)
  refine ps_st (S' := (146, [(0, .ref m0), (1, .int (nI pc)), (2, .int 182)], [.int 182], M)) rfl rfl rfl ?_
  refine ps_st (S' := (148, [(0, .ref m0), (1, .int (nI pc)), (2, .int 182)], [.int 78, .int 182], M)) rfl rfl rfl ?_
  refine ps_if2 (S1 := (196, [(0, .ref m0), (1, .int (nI pc)), (2, .int 182)], [], M)) (S2 := (151, [(0, .ref m0), (2, .int 182)], [], M)) rfl rfl rfl (fun c_148 => ?_) (fun c_148 => ?_)
  rotate_left
  · exact absurd (by decide) (of_decide_eq_false c_148)
  refine ps_st (S' := (197, [(0, .ref m0), (1, .int (nI pc)), (2, .int 182)], [.int 182], M)) rfl rfl rfl ?_
  refine ps_st (S' := (200, [(0, .ref m0), (1, .int (nI pc)), (2, .int 182)], [.int 132, .int 182], M)) rfl rfl rfl ?_
  refine ps_if2 (S1 := (216, [(0, .ref m0), (1, .int (nI pc)), (2, .int 182)], [], M)) (S2 := (203, [(0, .ref m0), (1, .int (nI pc)), (2, .int 182)], [], M)) rfl rfl rfl (fun c_200 => ?_) (fun c_200 => ?_)
  rotate_left
  · exact absurd (by decide) (of_decide_eq_false c_200)
  refine ps_st (S' := (217, [(0, .ref m0), (1, .int (nI pc)), (2, .int 182)], [.int 182], M)) rfl rfl rfl ?_
  refine ps_st (S' := (220, [(0, .ref m0), (1, .int (nI pc)), (2, .int 182)], [.int 196, .int 182], M)) rfl rfl rfl ?_
  refine ps_if2 (S1 := (296, [(0, .ref m0), (1, .int (nI pc)), (2, .int 182)], [], M)) (S2 := (223, [(0, .ref m0), (1, .int (nI pc)), (2, .int 182)], [], M)) rfl rfl rfl (fun c_220 => ?_) (fun c_220 => ?_)
  rotate_left
  · exact absurd (by decide) (of_decide_eq_false c_220)
  refine ps_st (S' := (297, [(0, .ref m0), (1, .int (nI pc)), (2, .int 182)], [.int 182], M)) rfl rfl rfl ?_
  refine ps_st (S' := (300, [(0, .ref m0), (1, .int (nI pc)), (2, .int 182)], [.int 188, .int 182], M)) rfl rfl rfl ?_
  refine ps_if2 (S1 := (332, [(0, .ref m0), (1, .int (nI pc)), (2, .int 182)], [], M)) (S2 := (303, [(0, .ref m0), (1, .int (nI pc)), (2, .int 182)], [], M)) rfl rfl rfl (fun c_300 => ?_) (fun c_300 => ?_)
  rotate_left
  · exact absurd (by decide) (of_decide_eq_false c_300)
  refine ps_st (S' := (333, [(0, .ref m0), (1, .int (nI pc)), (2, .int 182)], [.int 182], M)) rfl rfl rfl ?_
  refine ps_st (S' := (335, [(0, .ref m0), (1, .int (nI pc)), (2, .int 182)], [.int 18, .int 182], M)) rfl rfl rfl ?_
  refine ps_if2 (S1 := (513, [(0, .ref m0), (1, .int (nI pc)), (2, .int 182)], [], M)) (S2 := (338, [(0, .ref m0), (1, .int (nI pc)), (2, .int 182)], [], M)) rfl rfl rfl (fun c_335 => ?_) (fun c_335 => ?_)
  · exact absurd (of_decide_eq_true c_335) (by decide)
  refine ps_st (S' := (339, [(0, .ref m0), (1, .int (nI pc)), (2, .int 182)], [.int 182], M)) rfl rfl rfl ?_
  refine ps_st (S' := (341, [(0, .ref m0), (1, .int (nI pc)), (2, .int 182)], [.int 20, .int 182], M)) rfl rfl rfl ?_
  refine ps_if2 (S1 := (513, [(0, .ref m0), (1, .int (nI pc)), (2, .int 182)], [], M)) (S2 := (344, [(0, .ref m0), (1, .int (nI pc)), (2, .int 182)], [], M)) rfl rfl rfl (fun c_341 => ?_) (fun c_341 => ?_)
  rotate_left
  · exact absurd (by decide) (of_decide_eq_false c_341)
  refine ps_st (S' := (514, [(0, .ref m0), (1, .int (nI pc)), (2, .int 182)], [.int 182], M)) rfl rfl rfl ?_
  refine ps_st (S' := (517, [(0, .ref m0), (1, .int (nI pc)), (2, .int 182)], [.int 178, .int 182], M)) rfl rfl rfl ?_
  refine ps_if2 (S1 := (549, [(0, .ref m0), (1, .int (nI pc)), (2, .int 182)], [], M)) (S2 := (520, [(0, .ref m0), (1, .int (nI pc)), (2, .int 182)], [], M)) rfl rfl rfl (fun c_517 => ?_) (fun c_517 => ?_)
  · exact absurd (of_decide_eq_true c_517) (by decide)
  refine ps_st (S' := (521, [(0, .ref m0), (1, .int (nI pc)), (2, .int 182)], [.int 182], M)) rfl rfl rfl ?_
  refine ps_st (S' := (524, [(0, .ref m0), (1, .int (nI pc)), (2, .int 182)], [.int 181, .int 182], M)) rfl rfl rfl ?_
  refine ps_if2 (S1 := (549, [(0, .ref m0), (1, .int (nI pc)), (2, .int 182)], [], M)) (S2 := (527, [(0, .ref m0), (1, .int (nI pc)), (2, .int 182)], [], M)) rfl rfl rfl (fun c_524 => ?_) (fun c_524 => ?_)
  rotate_left
  · exact absurd (by decide) (of_decide_eq_false c_524)
  refine ps_st (S' := (550, [(0, .ref m0), (1, .int (nI pc)), (2, .int 182)], [.int 182], M)) rfl rfl rfl ?_
  refine ps_st (S' := (553, [(0, .ref m0), (1, .int (nI pc)), (2, .int 182)], [.int 182, .int 182], M)) rfl rfl rfl ?_
  refine ps_if2 (S1 := (692, [(0, .ref m0), (1, .int (nI pc)), (2, .int 182)], [], M)) (S2 := (556, [(0, .ref m0), (1, .int (nI pc)), (2, .int 182)], [], M)) rfl rfl rfl (fun c_553 => ?_) (fun c_553 => ?_)
  · exact absurd (of_decide_eq_true c_553) (by decide)
  refine ps_st (S' := (557, [(0, .ref m0), (1, .int (nI pc)), (2, .int 182)], [.int 182], M)) rfl rfl rfl ?_
  refine ps_st (S' := (560, [(0, .ref m0), (1, .int (nI pc)), (2, .int 182)], [.int 185, .int 182], M)) rfl rfl rfl ?_
  refine ps_if2 (S1 := (692, [(0, .ref m0), (1, .int (nI pc)), (2, .int 182)], [], M)) (S2 := (563, [(0, .ref m0), (1, .int (nI pc)), (2, .int 182)], [], M)) rfl rfl rfl (fun c_560 => ?_) (fun c_560 => ?_)
  · exact absurd (of_decide_eq_true c_560) (by decide)
  refine ps_st (S' := (564, [(0, .ref m0), (1, .int (nI pc)), (2, .int 182)], [.ref m0], M)) rfl rfl rfl ?_
  refine ps_st (S' := (565, [(0, .ref m0), (1, .int (nI pc)), (2, .int 182)], [.int (nI pc), .ref m0], M)) rfl rfl rfl ?_
  refine ps_st (S' := (566, [(0, .ref m0), (1, .int (nI pc)), (2, .int 182)], [.int 1, .int (nI pc), .ref m0], M)) rfl rfl rfl ?_
  refine ps_st (S' := (567, [(0, .ref m0), (1, .int (nI pc)), (2, .int 182)], [.int ((nI pc) + 1), .ref m0], M)) rfl rfl rfl ?_
  rw [nI_add1 (p := pc) (k := 1) (x := 1) rfl (by omega)]
  show pl _ _ _ (_, [(0, .ref m0), (1, .int (nI pc)), (2, .int 182)], [.int (nI (pc + 1)), .ref m0], M) _
  refine pl_call (a := [.ref m0, .int (nI (pc + 1))]) (rest := []) rfl rfl rfl (rd_b2 (n := n) (f := f) (cb := cb) (p := (pc + 1)) hR hi77 hF (by omega)) (fun v1 M2 q3 => ?_)
  obtain ⟨rfl, rfl⟩ := q3
  show pl _ _ _ (570, [(0, .ref m0), (1, .int (nI pc)), (2, .int 182)], [.int (nI (by2 f (cb + (pc + 1))))], M) _
  show pl _ _ _ (_, [(0, .ref m0), (1, .int (nI pc)), (2, .int 182)], [.int (nI (by2 f (cb + pc + 1)))], M) _
  have hb_567 := by2_lt f (cb + pc + 1)
  refine ps_st (S' := (571, [(3, .int (nI (by2 f (cb + pc + 1)))), (0, .ref m0), (1, .int (nI pc)), (2, .int 182)], [], M)) rfl rfl rfl ?_
  refine ps_st (S' := (572, [(3, .int (nI (by2 f (cb + pc + 1)))), (0, .ref m0), (1, .int (nI pc)), (2, .int 182)], [.ref m0], M)) rfl rfl rfl ?_
  refine ps_st (S' := (573, [(3, .int (nI (by2 f (cb + pc + 1)))), (0, .ref m0), (1, .int (nI pc)), (2, .int 182)], [.int (nI (by2 f (cb + pc + 1))), .ref m0], M)) rfl rfl rfl ?_
  refine pl_call (a := [.ref m0, .int (nI (by2 f (cb + pc + 1)))]) (rest := []) rfl rfl rfl (rd_tag (n := n) (f := f) (tx := tx) (cN := cN) (A := A) (N := N) (mj := mj) (E := E) (k := (by2 f (cb + pc + 1))) hR hi51 hi52 hi53 hF hY hP (hEP) (hN) (hmj) (by2_lt _ _)) (fun v4 M5 q6 => ?_)
  obtain ⟨rfl, rfl⟩ := q6
  show pl _ _ _ (576, [(3, .int (nI (by2 f (cb + pc + 1)))), (0, .ref m0), (1, .int (nI pc)), (2, .int 182)], [.int (nI (tg f E (by2 f (cb + pc + 1))))], M) _
  have htg_573 := tg_lt f E (by2 f (cb + pc + 1))
  refine ps_st (S' := (578, [(4, .int (nI (tg f E (by2 f (cb + pc + 1))))), (3, .int (nI (by2 f (cb + pc + 1)))), (0, .ref m0), (1, .int (nI pc)), (2, .int 182)], [], M)) rfl rfl rfl ?_
  refine ps_st (S' := (579, [(4, .int (nI (tg f E (by2 f (cb + pc + 1))))), (3, .int (nI (by2 f (cb + pc + 1)))), (0, .ref m0), (1, .int (nI pc)), (2, .int 182)], [.int 182], M)) rfl rfl rfl ?_
  refine ps_st (S' := (582, [(4, .int (nI (tg f E (by2 f (cb + pc + 1))))), (3, .int (nI (by2 f (cb + pc + 1)))), (0, .ref m0), (1, .int (nI pc)), (2, .int 182)], [.int 185, .int 182], M)) rfl rfl rfl ?_
  refine ps_if2 (S1 := (595, [(4, .int (nI (tg f E (by2 f (cb + pc + 1))))), (3, .int (nI (by2 f (cb + pc + 1)))), (0, .ref m0), (1, .int (nI pc)), (2, .int 182)], [], M)) (S2 := (585, [(4, .int (nI (tg f E (by2 f (cb + pc + 1))))), (3, .int (nI (by2 f (cb + pc + 1)))), (0, .ref m0), (1, .int (nI pc)), (2, .int 182)], [], M)) rfl rfl rfl (fun c_582 => ?_) (fun c_582 => ?_)
  rotate_left
  · exact absurd (by decide) (of_decide_eq_false c_582)
  refine ps_st (S' := (597, [(4, .int (nI (tg f E (by2 f (cb + pc + 1))))), (3, .int (nI (by2 f (cb + pc + 1)))), (0, .ref m0), (1, .int (nI pc)), (2, .int 182)], [.int (nI (tg f E (by2 f (cb + pc + 1))))], M)) rfl rfl rfl ?_
  refine ps_st (S' := (599, [(4, .int (nI (tg f E (by2 f (cb + pc + 1))))), (3, .int (nI (by2 f (cb + pc + 1)))), (0, .ref m0), (1, .int (nI pc)), (2, .int 182)], [.int 10, .int (nI (tg f E (by2 f (cb + pc + 1))))], M)) rfl rfl rfl ?_
  refine ps_if2 (S1 := (627, [(0, .ref m0), (1, .int (nI pc)), (2, .int 182), (3, .int (nI (by2 f (cb + pc + 1))))], [], M)) (S2 := (602, [(4, .int (nI (tg f E (by2 f (cb + pc + 1))))), (3, .int (nI (by2 f (cb + pc + 1)))), (0, .ref m0), (1, .int (nI pc)), (2, .int 182)], [], M)) rfl rfl rfl (fun c_599 => ?_) (fun c_599 => ?_)
  · have c_599 : (nI (tg f E (by2 f (cb + pc + 1)))) = 10 := of_decide_eq_true c_599
    have n_599 : tg f E (by2 f (cb + pc + 1)) = 10 := (eq_nI (p := tg f E (by2 f (cb + pc + 1))) (n := 10) (Nat.lt_trans (tg_lt _ _ _) (by decide)) (by decide)).mp c_599
    refine ps_st (S' := (628, [(0, .ref m0), (1, .int (nI pc)), (2, .int 182), (3, .int (nI (by2 f (cb + pc + 1))))], [.ref m0], M)) rfl rfl rfl ?_
    refine ps_st (S' := (629, [(0, .ref m0), (1, .int (nI pc)), (2, .int 182), (3, .int (nI (by2 f (cb + pc + 1))))], [.int (nI (by2 f (cb + pc + 1))), .ref m0], M)) rfl rfl rfl ?_
    refine pl_call (a := [.ref m0, .int (nI (by2 f (cb + pc + 1)))]) (rest := []) rfl rfl rfl (rd_nameOf (n := n) (f := f) (tx := tx) (cN := cN) (A := A) (N := N) (mj := mj) (E := E) (k := (by2 f (cb + pc + 1))) hR hi51 hi52 hi53 hF hY hP (hEP) (hN) (hmj) (by omega) ((hPF (by2 f (cb + pc + 1))).1 (by omega) |>.1) ((hPF (by2 f (cb + pc + 1))).1 (by omega) |>.2.1)) (fun v7 M8 q9 => ?_)
    obtain ⟨s10, q629_s, rfl, rfl⟩ := q9
    show pl _ _ _ (632, [(0, .ref m0), (1, .int (nI pc)), (2, .int 182), (3, .int (nI (by2 f (cb + pc + 1))))], [.int (nI s10)], M) _
    have hsl_629 := q629_s.1
    have htl_629 := hY.1.2.2.1
    have hni_629 : niN f n E (by2 f (cb + pc + 1)) = 0 ↔ _ := sy_ni hY q629_s hs9
    refine ps_st (S' := (633, [(0, .ref m0), (1, .int (nI pc)), (2, .int 182), (3, .int (nI (by2 f (cb + pc + 1))))], [.ref m0, .int (nI s10)], M)) rfl rfl rfl ?_
    refine pr_int (j := 9) (S' := (636, [(0, .ref m0), (1, .int (nI pc)), (2, .int 182), (3, .int (nI (by2 f (cb + pc + 1))))], [.int (nI s9), .int (nI s10)], M)) rfl hR rfl hi9 rfl ?_
    refine ps_if2 (S1 := (648, [(0, .ref m0), (1, .int (nI pc)), (2, .int 182), (3, .int (nI (by2 f (cb + pc + 1))))], [], M)) (S2 := (639, [(0, .ref m0), (1, .int (nI pc)), (2, .int 182), (3, .int (nI (by2 f (cb + pc + 1))))], [], M)) rfl rfl rfl (fun c_636 => ?_) (fun c_636 => ?_)
    · have c_636 : ¬ (nI s10) = (nI s9) := of_decide_eq_true c_636
      have n_636 : ¬ (s10 = s9) := fun h9 => c_636 ((eq_nI (p := s10) (n := s9) (by omega) (by omega)).mpr h9)
      refine ps_st (S' := (649, [(0, .ref m0), (1, .int (nI pc)), (2, .int 182), (3, .int (nI (by2 f (cb + pc + 1))))], [.int 182], M)) rfl rfl rfl ?_
      refine ps_st (S' := (652, [(0, .ref m0), (1, .int (nI pc)), (2, .int 182), (3, .int (nI (by2 f (cb + pc + 1))))], [.int 185, .int 182], M)) rfl rfl rfl ?_
      refine ps_if2 (S1 := (686, [], [], M)) (S2 := (655, [(0, .ref m0), (1, .int (nI pc)), (2, .int 182), (3, .int (nI (by2 f (cb + pc + 1))))], [], M)) rfl rfl rfl (fun c_652 => ?_) (fun c_652 => ?_)
      rotate_left
      · exact absurd (by decide) (of_decide_eq_false c_652)
      refine ps_st (S' := (687, [], [.int 1], M)) rfl rfl rfl ?_
      refine ps_st (S' := (691, [], [.int 1], M)) rfl rfl rfl ?_
      exact ps_ret rfl rfl (⟨congrArg (fun x => some (Value.int (nI x))) (show 1 = if tg f E (by2 f (cb + pc + 1)) = 10 ∧ niN f n E (by2 f (cb + pc + 1)) = 0 then 1 else 0 from by
          first | ((repeat first | rw [if_pos (by omega)] | rw [if_neg (by omega)]) <;> first | rfl | omega) | ((repeat' split) <;> first | rfl | (exfalso; omega) | omega)), rfl⟩)
    · have c_636 : ¬ (¬ (nI s10) = (nI s9)) := of_decide_eq_false c_636
      have n_636 : s10 = s9 := (eq_nI (p := s10) (n := s9) (by omega) (by omega)).mp (Decidable.not_not.mp c_636)
      refine ps_st (S' := (640, [(0, .ref m0), (1, .int (nI pc)), (2, .int 182), (3, .int (nI (by2 f (cb + pc + 1))))], [.int 182], M)) rfl rfl rfl ?_
      refine ps_st (S' := (643, [(0, .ref m0), (1, .int (nI pc)), (2, .int 182), (3, .int (nI (by2 f (cb + pc + 1))))], [.int 183, .int 182], M)) rfl rfl rfl ?_
      refine ps_if2 (S1 := (648, [(0, .ref m0), (1, .int (nI pc)), (2, .int 182), (3, .int (nI (by2 f (cb + pc + 1))))], [], M)) (S2 := (646, [(0, .ref m0), (1, .int (nI pc)), (2, .int 182), (3, .int (nI (by2 f (cb + pc + 1))))], [], M)) rfl rfl rfl (fun c_643 => ?_) (fun c_643 => ?_)
      · exact absurd (of_decide_eq_true c_643) (by decide)
      refine ps_st (S' := (647, [(0, .ref m0), (1, .int (nI pc)), (2, .int 182), (3, .int (nI (by2 f (cb + pc + 1))))], [.int 0], M)) rfl rfl rfl ?_
      exact ps_ret rfl rfl (⟨congrArg (fun x => some (Value.int (nI x))) (show 0 = if tg f E (by2 f (cb + pc + 1)) = 10 ∧ niN f n E (by2 f (cb + pc + 1)) = 0 then 1 else 0 from by
          first | ((repeat first | rw [if_pos (by omega)] | rw [if_neg (by omega)]) <;> first | rfl | omega) | ((repeat' split) <;> first | rfl | (exfalso; omega) | omega)), rfl⟩)
  · have c_599 : ¬ ((nI (tg f E (by2 f (cb + pc + 1)))) = 10) := of_decide_eq_false c_599
    have n_599 : ¬ (tg f E (by2 f (cb + pc + 1)) = 10) := fun h9 => c_599 ((eq_nI (p := tg f E (by2 f (cb + pc + 1))) (n := 10) (Nat.lt_trans (tg_lt _ _ _) (by decide)) (by decide)).mpr h9)
    refine ps_st (S' := (603, [(4, .int (nI (tg f E (by2 f (cb + pc + 1))))), (3, .int (nI (by2 f (cb + pc + 1)))), (0, .ref m0), (1, .int (nI pc)), (2, .int 182)], [.int 182], M)) rfl rfl rfl ?_
    refine ps_st (S' := (606, [(4, .int (nI (tg f E (by2 f (cb + pc + 1))))), (3, .int (nI (by2 f (cb + pc + 1)))), (0, .ref m0), (1, .int (nI pc)), (2, .int 182)], [.int 182, .int 182], M)) rfl rfl rfl ?_
    refine ps_if2 (S1 := (625, [], [], M)) (S2 := (609, [(4, .int (nI (tg f E (by2 f (cb + pc + 1))))), (3, .int (nI (by2 f (cb + pc + 1)))), (0, .ref m0), (1, .int (nI pc)), (2, .int 182)], [], M)) rfl rfl rfl (fun c_606 => ?_) (fun c_606 => ?_)
    rotate_left
    · exact absurd (by decide) (of_decide_eq_false c_606)
    refine ps_st (S' := (626, [], [.int 0], M)) rfl rfl rfl ?_
    exact ps_ret rfl rfl (⟨congrArg (fun x => some (Value.int (nI x))) (show 0 = if tg f E (by2 f (cb + pc + 1)) = 10 ∧ niN f n E (by2 f (cb + pc + 1)) = 0 then 1 else 0 from by
        first | ((repeat first | rw [if_pos (by omega)] | rw [if_neg (by omega)]) <;> first | rfl | omega) | ((repeat' split) <;> first | rfl | (exfalso; omega) | omega)), rfl⟩)
set_option maxHeartbeats 1000000 in
theorem rd_op183 {g : xe_G} {m0 : Nat} {q : Nat → Nat} {z : Nat × Nat} {I : rI} {R : rR} {M : mi_H} {n : Nat} {f : Nat → Int32} {tx : List (List Nat)} {cN : Nat} {A : Nat → Nat} {N mj : Nat} {E : List (Nat × Nat)} {cb ml s9 pc : Nat} (hR : RS g m0 q z I R M) (hi51 : I 51 = some 0) (hi52 : I 52 = some (nI N)) (hi53 : I 53 = some (nI mj)) (hi77 : I 77 = some (nI cb)) (hi79 : I 79 = some (nI ml)) (hi9 : I 9 = some (nI s9)) (hF : FK n f I R) (hY : SYT tx cN A I R) (hP : RPV f n E tx N I R) (hEP : EP f n E) (hN : N < 65536) (hmj : mj < 65536) (hml : ml < 65536) (hs9 : s9 < tx.length ∧ tx.getD s9 [] = ltx 14) (hCP : CP f n E) (hPF : PF f n E) (hin : cb + pc + 3 ≤ n) : pt (mT g) 228 [.ref m0, .int (nI pc), .int 183] M (fun v M' => (v = some (.int (nI (if tg f E (by2 f (cb + pc + 1)) = 10 ∨ (tg f E (by2 f (cb + pc + 1)) = 11 ∧ 52 ≤ mj) then 1 else 0))) ∧ M = M')) := by
  refine pt_in (b := mb_228 g) rfl (fun kf => ?_)
  show pl (mT g) kf (mb_228 g).2 (0, [(0, .ref m0), (1, .int (nI pc)), (2, .int 183)], [], M) _
  have hn := hF.1
  have htl := hY.1.2.2.1
  refine ps_st (S' := (1, [(0, .ref m0), (1, .int (nI pc)), (2, .int 183)], [.int 183], M)) rfl rfl rfl ?_
  refine ps_st (S' := (4, [(0, .ref m0), (1, .int (nI pc)), (2, .int 183)], [.int 168, .int 183], M)) rfl rfl rfl ?_
  refine ps_if2 (S1 := (21, [(0, .ref m0), (1, .int (nI pc)), (2, .int 183)], [], M)) (S2 := (7, [(0, .ref m0), (1, .int (nI pc)), (2, .int 183)], [], M)) rfl rfl rfl (fun c_4 => ?_) (fun c_4 => ?_)
  · exact absurd (of_decide_eq_true c_4) (by decide)
  refine ps_st (S' := (8, [(0, .ref m0), (1, .int (nI pc)), (2, .int 183)], [.int 183], M)) rfl rfl rfl ?_
  refine ps_st (S' := (11, [(0, .ref m0), (1, .int (nI pc)), (2, .int 183)], [.int 169, .int 183], M)) rfl rfl rfl ?_
  refine ps_if2 (S1 := (21, [(0, .ref m0), (1, .int (nI pc)), (2, .int 183)], [], M)) (S2 := (14, [(0, .ref m0), (1, .int (nI pc)), (2, .int 183)], [], M)) rfl rfl rfl (fun c_11 => ?_) (fun c_11 => ?_)
  · exact absurd (of_decide_eq_true c_11) (by decide)
  refine ps_st (S' := (15, [(0, .ref m0), (1, .int (nI pc)), (2, .int 183)], [.int 183], M)) rfl rfl rfl ?_
  refine ps_st (S' := (18, [(0, .ref m0), (1, .int (nI pc)), (2, .int 183)], [.int 201, .int 183], M)) rfl rfl rfl ?_
  refine ps_if2 (S1 := (58, [(0, .ref m0), (1, .int (nI pc)), (2, .int 183)], [], M)) (S2 := (21, [(0, .ref m0), (1, .int (nI pc)), (2, .int 183)], [], M)) rfl rfl rfl (fun c_18 => ?_) (fun c_18 => ?_)
  rotate_left
  · exact absurd (by decide) (of_decide_eq_false c_18)
  refine ps_st (S' := (59, [(0, .ref m0), (1, .int (nI pc)), (2, .int 183)], [.int 183], M)) rfl rfl rfl ?_
  refine ps_st (S' := (61, [(0, .ref m0), (1, .int (nI pc)), (2, .int 183)], [.int 21, .int 183], M)) rfl rfl rfl ?_
  refine ps_if2 (S1 := (70, [(0, .ref m0), (1, .int (nI pc)), (2, .int 183)], [], M)) (S2 := (64, [(0, .ref m0), (1, .int (nI pc)), (2, .int 183)], [], M)) rfl rfl rfl (fun c_61 => ?_) (fun c_61 => ?_)
  · exact absurd (of_decide_eq_true c_61) (by decide)
  refine ps_st (S' := (65, [(0, .ref m0), (1, .int (nI pc)), (2, .int 183)], [.int 183], M)) rfl rfl rfl ?_
  refine ps_st (S' := (67, [(0, .ref m0), (1, .int (nI pc)), (2, .int 183)], [.int 25, .int 183], M)) rfl rfl rfl ?_
  refine ps_if2 (S1 := (82, [(0, .ref m0), (1, .int (nI pc)), (2, .int 183)], [], M)) (S2 := (70, [(0, .ref m0), (1, .int (nI pc)), (2, .int 183)], [], M)) rfl rfl rfl (fun c_67 => ?_) (fun c_67 => ?_)
  · exact absurd (of_decide_eq_true c_67) (by decide)
  refine ps_st (S' := (71, [(0, .ref m0), (1, .int (nI pc)), (2, .int 183)], [.int 183], M)) rfl rfl rfl ?_
  refine ps_st (S' := (73, [(0, .ref m0), (1, .int (nI pc)), (2, .int 183)], [.int 54, .int 183], M)) rfl rfl rfl ?_
  refine ps_if2 (S1 := (127, [(0, .ref m0), (1, .int (nI pc)), (2, .int 183)], [], M)) (S2 := (76, [(0, .ref m0), (1, .int (nI pc)), (2, .int 183)], [], M)) rfl rfl rfl (fun c_73 => ?_) (fun c_73 => ?_)
  · exact absurd (of_decide_eq_true c_73) (by decide)
  refine ps_st (S' := (77, [(0, .ref m0), (1, .int (nI pc)), (2, .int 183)], [.int 183], M)) rfl rfl rfl ?_
  refine ps_st (S' := (79, [(0, .ref m0), (1, .int (nI pc)), (2, .int 183)], [.int 58, .int 183], M)) rfl rfl rfl ?_
  refine ps_if2 (S1 := (127, [(0, .ref m0), (1, .int (nI pc)), (2, .int 183)], [], M)) (S2 := (82, [(0, .ref m0), (1, .int (nI pc)), (2, .int 183)], [], M)) rfl rfl rfl (fun c_79 => ?_) (fun c_79 => ?_)
  rotate_left
  · exact absurd (by decide) (of_decide_eq_false c_79)
  refine ps_st (S' := (128, [(0, .ref m0), (1, .int (nI pc)), (2, .int 183)], [.int 183], M)) rfl rfl rfl ?_
  refine ps_st (S' := (130, [(0, .ref m0), (1, .int (nI pc)), (2, .int 183)], [.int 26, .int 183], M)) rfl rfl rfl ?_
  refine ps_if2 (S1 := (139, [(0, .ref m0), (1, .int (nI pc)), (2, .int 183)], [], M)) (S2 := (133, [(0, .ref m0), (1, .int (nI pc)), (2, .int 183)], [], M)) rfl rfl rfl (fun c_130 => ?_) (fun c_130 => ?_)
  · exact absurd (of_decide_eq_true c_130) (by decide)
  refine ps_st (S' := (134, [(0, .ref m0), (1, .int (nI pc)), (2, .int 183)], [.int 183], M)) rfl rfl rfl ?_
  refine ps_st (S' := (136, [(0, .ref m0), (1, .int (nI pc)), (2, .int 183)], [.int 45, .int 183], M)) rfl rfl rfl ?_
  refine ps_if2 (S1 := (151, [(0, .ref m0), (2, .int 183)], [], M)) (S2 := (139, [(0, .ref m0), (1, .int (nI pc)), (2, .int 183)], [], M)) rfl rfl rfl (fun c_136 => ?_) (fun c_136 => ?_)
  · exact absurd (of_decide_eq_true c_136) (by decide)
  refine ps_st (S' := (140, [(0, .ref m0), (1, .int (nI pc)), (2, .int 183)], [.int 183], M)) rfl rfl rfl ?_
  refine ps_st (S' := (142, [(0, .ref m0), (1, .int (nI pc)), (2, .int 183)], [.int 59, .int 183], M)) rfl rfl rfl ?_
  refine ps_if2 (S1 := (196, [(0, .ref m0), (1, .int (nI pc)), (2, .int 183)], [], M)) (S2 := (145, [(0, .ref m0), (1, .int (nI pc)), (2, .int 183)], [], M)) rfl rfl rfl (fun c_142 => ?_) (fun c_142 => ?_)
  · exact absurd (of_decide_eq_true c_142) (by decide)
  refine ps_st (S' := (146, [(0, .ref m0), (1, .int (nI pc)), (2, .int 183)], [.int 183], M)) rfl rfl rfl ?_
  refine ps_st (S' := (148, [(0, .ref m0), (1, .int (nI pc)), (2, .int 183)], [.int 78, .int 183], M)) rfl rfl rfl ?_
  refine ps_if2 (S1 := (196, [(0, .ref m0), (1, .int (nI pc)), (2, .int 183)], [], M)) (S2 := (151, [(0, .ref m0), (2, .int 183)], [], M)) rfl rfl rfl (fun c_148 => ?_) (fun c_148 => ?_)
  rotate_left
  · exact absurd (by decide) (of_decide_eq_false c_148)
  refine ps_st (S' := (197, [(0, .ref m0), (1, .int (nI pc)), (2, .int 183)], [.int 183], M)) rfl rfl rfl ?_
  refine ps_st (S' := (200, [(0, .ref m0), (1, .int (nI pc)), (2, .int 183)], [.int 132, .int 183], M)) rfl rfl rfl ?_
  refine ps_if2 (S1 := (216, [(0, .ref m0), (1, .int (nI pc)), (2, .int 183)], [], M)) (S2 := (203, [(0, .ref m0), (1, .int (nI pc)), (2, .int 183)], [], M)) rfl rfl rfl (fun c_200 => ?_) (fun c_200 => ?_)
  rotate_left
  · exact absurd (by decide) (of_decide_eq_false c_200)
  refine ps_st (S' := (217, [(0, .ref m0), (1, .int (nI pc)), (2, .int 183)], [.int 183], M)) rfl rfl rfl ?_
  refine ps_st (S' := (220, [(0, .ref m0), (1, .int (nI pc)), (2, .int 183)], [.int 196, .int 183], M)) rfl rfl rfl ?_
  refine ps_if2 (S1 := (296, [(0, .ref m0), (1, .int (nI pc)), (2, .int 183)], [], M)) (S2 := (223, [(0, .ref m0), (1, .int (nI pc)), (2, .int 183)], [], M)) rfl rfl rfl (fun c_220 => ?_) (fun c_220 => ?_)
  rotate_left
  · exact absurd (by decide) (of_decide_eq_false c_220)
  refine ps_st (S' := (297, [(0, .ref m0), (1, .int (nI pc)), (2, .int 183)], [.int 183], M)) rfl rfl rfl ?_
  refine ps_st (S' := (300, [(0, .ref m0), (1, .int (nI pc)), (2, .int 183)], [.int 188, .int 183], M)) rfl rfl rfl ?_
  refine ps_if2 (S1 := (332, [(0, .ref m0), (1, .int (nI pc)), (2, .int 183)], [], M)) (S2 := (303, [(0, .ref m0), (1, .int (nI pc)), (2, .int 183)], [], M)) rfl rfl rfl (fun c_300 => ?_) (fun c_300 => ?_)
  rotate_left
  · exact absurd (by decide) (of_decide_eq_false c_300)
  refine ps_st (S' := (333, [(0, .ref m0), (1, .int (nI pc)), (2, .int 183)], [.int 183], M)) rfl rfl rfl ?_
  refine ps_st (S' := (335, [(0, .ref m0), (1, .int (nI pc)), (2, .int 183)], [.int 18, .int 183], M)) rfl rfl rfl ?_
  refine ps_if2 (S1 := (513, [(0, .ref m0), (1, .int (nI pc)), (2, .int 183)], [], M)) (S2 := (338, [(0, .ref m0), (1, .int (nI pc)), (2, .int 183)], [], M)) rfl rfl rfl (fun c_335 => ?_) (fun c_335 => ?_)
  · exact absurd (of_decide_eq_true c_335) (by decide)
  refine ps_st (S' := (339, [(0, .ref m0), (1, .int (nI pc)), (2, .int 183)], [.int 183], M)) rfl rfl rfl ?_
  refine ps_st (S' := (341, [(0, .ref m0), (1, .int (nI pc)), (2, .int 183)], [.int 20, .int 183], M)) rfl rfl rfl ?_
  refine ps_if2 (S1 := (513, [(0, .ref m0), (1, .int (nI pc)), (2, .int 183)], [], M)) (S2 := (344, [(0, .ref m0), (1, .int (nI pc)), (2, .int 183)], [], M)) rfl rfl rfl (fun c_341 => ?_) (fun c_341 => ?_)
  rotate_left
  · exact absurd (by decide) (of_decide_eq_false c_341)
  refine ps_st (S' := (514, [(0, .ref m0), (1, .int (nI pc)), (2, .int 183)], [.int 183], M)) rfl rfl rfl ?_
  refine ps_st (S' := (517, [(0, .ref m0), (1, .int (nI pc)), (2, .int 183)], [.int 178, .int 183], M)) rfl rfl rfl ?_
  refine ps_if2 (S1 := (549, [(0, .ref m0), (1, .int (nI pc)), (2, .int 183)], [], M)) (S2 := (520, [(0, .ref m0), (1, .int (nI pc)), (2, .int 183)], [], M)) rfl rfl rfl (fun c_517 => ?_) (fun c_517 => ?_)
  · exact absurd (of_decide_eq_true c_517) (by decide)
  refine ps_st (S' := (521, [(0, .ref m0), (1, .int (nI pc)), (2, .int 183)], [.int 183], M)) rfl rfl rfl ?_
  refine ps_st (S' := (524, [(0, .ref m0), (1, .int (nI pc)), (2, .int 183)], [.int 181, .int 183], M)) rfl rfl rfl ?_
  refine ps_if2 (S1 := (549, [(0, .ref m0), (1, .int (nI pc)), (2, .int 183)], [], M)) (S2 := (527, [(0, .ref m0), (1, .int (nI pc)), (2, .int 183)], [], M)) rfl rfl rfl (fun c_524 => ?_) (fun c_524 => ?_)
  rotate_left
  · exact absurd (by decide) (of_decide_eq_false c_524)
  refine ps_st (S' := (550, [(0, .ref m0), (1, .int (nI pc)), (2, .int 183)], [.int 183], M)) rfl rfl rfl ?_
  refine ps_st (S' := (553, [(0, .ref m0), (1, .int (nI pc)), (2, .int 183)], [.int 182, .int 183], M)) rfl rfl rfl ?_
  refine ps_if2 (S1 := (692, [(0, .ref m0), (1, .int (nI pc)), (2, .int 183)], [], M)) (S2 := (556, [(0, .ref m0), (1, .int (nI pc)), (2, .int 183)], [], M)) rfl rfl rfl (fun c_553 => ?_) (fun c_553 => ?_)
  · exact absurd (of_decide_eq_true c_553) (by decide)
  refine ps_st (S' := (557, [(0, .ref m0), (1, .int (nI pc)), (2, .int 183)], [.int 183], M)) rfl rfl rfl ?_
  refine ps_st (S' := (560, [(0, .ref m0), (1, .int (nI pc)), (2, .int 183)], [.int 185, .int 183], M)) rfl rfl rfl ?_
  refine ps_if2 (S1 := (692, [(0, .ref m0), (1, .int (nI pc)), (2, .int 183)], [], M)) (S2 := (563, [(0, .ref m0), (1, .int (nI pc)), (2, .int 183)], [], M)) rfl rfl rfl (fun c_560 => ?_) (fun c_560 => ?_)
  · exact absurd (of_decide_eq_true c_560) (by decide)
  refine ps_st (S' := (564, [(0, .ref m0), (1, .int (nI pc)), (2, .int 183)], [.ref m0], M)) rfl rfl rfl ?_
  refine ps_st (S' := (565, [(0, .ref m0), (1, .int (nI pc)), (2, .int 183)], [.int (nI pc), .ref m0], M)) rfl rfl rfl ?_
  refine ps_st (S' := (566, [(0, .ref m0), (1, .int (nI pc)), (2, .int 183)], [.int 1, .int (nI pc), .ref m0], M)) rfl rfl rfl ?_
  refine ps_st (S' := (567, [(0, .ref m0), (1, .int (nI pc)), (2, .int 183)], [.int ((nI pc) + 1), .ref m0], M)) rfl rfl rfl ?_
  rw [nI_add1 (p := pc) (k := 1) (x := 1) rfl (by omega)]
  show pl _ _ _ (_, [(0, .ref m0), (1, .int (nI pc)), (2, .int 183)], [.int (nI (pc + 1)), .ref m0], M) _
  refine pl_call (a := [.ref m0, .int (nI (pc + 1))]) (rest := []) rfl rfl rfl (rd_b2 (n := n) (f := f) (cb := cb) (p := (pc + 1)) hR hi77 hF (by omega)) (fun v1 M2 q3 => ?_)
  obtain ⟨rfl, rfl⟩ := q3
  show pl _ _ _ (570, [(0, .ref m0), (1, .int (nI pc)), (2, .int 183)], [.int (nI (by2 f (cb + (pc + 1))))], M) _
  show pl _ _ _ (_, [(0, .ref m0), (1, .int (nI pc)), (2, .int 183)], [.int (nI (by2 f (cb + pc + 1)))], M) _
  have hb_567 := by2_lt f (cb + pc + 1)
  refine ps_st (S' := (571, [(3, .int (nI (by2 f (cb + pc + 1)))), (0, .ref m0), (1, .int (nI pc)), (2, .int 183)], [], M)) rfl rfl rfl ?_
  refine ps_st (S' := (572, [(3, .int (nI (by2 f (cb + pc + 1)))), (0, .ref m0), (1, .int (nI pc)), (2, .int 183)], [.ref m0], M)) rfl rfl rfl ?_
  refine ps_st (S' := (573, [(3, .int (nI (by2 f (cb + pc + 1)))), (0, .ref m0), (1, .int (nI pc)), (2, .int 183)], [.int (nI (by2 f (cb + pc + 1))), .ref m0], M)) rfl rfl rfl ?_
  refine pl_call (a := [.ref m0, .int (nI (by2 f (cb + pc + 1)))]) (rest := []) rfl rfl rfl (rd_tag (n := n) (f := f) (tx := tx) (cN := cN) (A := A) (N := N) (mj := mj) (E := E) (k := (by2 f (cb + pc + 1))) hR hi51 hi52 hi53 hF hY hP (hEP) (hN) (hmj) (by2_lt _ _)) (fun v4 M5 q6 => ?_)
  obtain ⟨rfl, rfl⟩ := q6
  show pl _ _ _ (576, [(3, .int (nI (by2 f (cb + pc + 1)))), (0, .ref m0), (1, .int (nI pc)), (2, .int 183)], [.int (nI (tg f E (by2 f (cb + pc + 1))))], M) _
  have htg_573 := tg_lt f E (by2 f (cb + pc + 1))
  refine ps_st (S' := (578, [(4, .int (nI (tg f E (by2 f (cb + pc + 1))))), (3, .int (nI (by2 f (cb + pc + 1)))), (0, .ref m0), (1, .int (nI pc)), (2, .int 183)], [], M)) rfl rfl rfl ?_
  refine ps_st (S' := (579, [(4, .int (nI (tg f E (by2 f (cb + pc + 1))))), (3, .int (nI (by2 f (cb + pc + 1)))), (0, .ref m0), (1, .int (nI pc)), (2, .int 183)], [.int 183], M)) rfl rfl rfl ?_
  refine ps_st (S' := (582, [(4, .int (nI (tg f E (by2 f (cb + pc + 1))))), (3, .int (nI (by2 f (cb + pc + 1)))), (0, .ref m0), (1, .int (nI pc)), (2, .int 183)], [.int 185, .int 183], M)) rfl rfl rfl ?_
  refine ps_if2 (S1 := (595, [(4, .int (nI (tg f E (by2 f (cb + pc + 1))))), (3, .int (nI (by2 f (cb + pc + 1)))), (0, .ref m0), (1, .int (nI pc)), (2, .int 183)], [], M)) (S2 := (585, [(4, .int (nI (tg f E (by2 f (cb + pc + 1))))), (3, .int (nI (by2 f (cb + pc + 1)))), (0, .ref m0), (1, .int (nI pc)), (2, .int 183)], [], M)) rfl rfl rfl (fun c_582 => ?_) (fun c_582 => ?_)
  rotate_left
  · exact absurd (by decide) (of_decide_eq_false c_582)
  refine ps_st (S' := (597, [(4, .int (nI (tg f E (by2 f (cb + pc + 1))))), (3, .int (nI (by2 f (cb + pc + 1)))), (0, .ref m0), (1, .int (nI pc)), (2, .int 183)], [.int (nI (tg f E (by2 f (cb + pc + 1))))], M)) rfl rfl rfl ?_
  refine ps_st (S' := (599, [(4, .int (nI (tg f E (by2 f (cb + pc + 1))))), (3, .int (nI (by2 f (cb + pc + 1)))), (0, .ref m0), (1, .int (nI pc)), (2, .int 183)], [.int 10, .int (nI (tg f E (by2 f (cb + pc + 1))))], M)) rfl rfl rfl ?_
  refine ps_if2 (S1 := (627, [(0, .ref m0), (1, .int (nI pc)), (2, .int 183), (3, .int (nI (by2 f (cb + pc + 1))))], [], M)) (S2 := (602, [(4, .int (nI (tg f E (by2 f (cb + pc + 1))))), (3, .int (nI (by2 f (cb + pc + 1)))), (0, .ref m0), (1, .int (nI pc)), (2, .int 183)], [], M)) rfl rfl rfl (fun c_599 => ?_) (fun c_599 => ?_)
  · have c_599 : (nI (tg f E (by2 f (cb + pc + 1)))) = 10 := of_decide_eq_true c_599
    have n_599 : tg f E (by2 f (cb + pc + 1)) = 10 := (eq_nI (p := tg f E (by2 f (cb + pc + 1))) (n := 10) (Nat.lt_trans (tg_lt _ _ _) (by decide)) (by decide)).mp c_599
    refine ps_st (S' := (628, [(0, .ref m0), (1, .int (nI pc)), (2, .int 183), (3, .int (nI (by2 f (cb + pc + 1))))], [.ref m0], M)) rfl rfl rfl ?_
    refine ps_st (S' := (629, [(0, .ref m0), (1, .int (nI pc)), (2, .int 183), (3, .int (nI (by2 f (cb + pc + 1))))], [.int (nI (by2 f (cb + pc + 1))), .ref m0], M)) rfl rfl rfl ?_
    refine pl_call (a := [.ref m0, .int (nI (by2 f (cb + pc + 1)))]) (rest := []) rfl rfl rfl (rd_nameOf (n := n) (f := f) (tx := tx) (cN := cN) (A := A) (N := N) (mj := mj) (E := E) (k := (by2 f (cb + pc + 1))) hR hi51 hi52 hi53 hF hY hP (hEP) (hN) (hmj) (by omega) ((hPF (by2 f (cb + pc + 1))).1 (by omega) |>.1) ((hPF (by2 f (cb + pc + 1))).1 (by omega) |>.2.1)) (fun v7 M8 q9 => ?_)
    obtain ⟨s10, q629_s, rfl, rfl⟩ := q9
    show pl _ _ _ (632, [(0, .ref m0), (1, .int (nI pc)), (2, .int 183), (3, .int (nI (by2 f (cb + pc + 1))))], [.int (nI s10)], M) _
    have hsl_629 := q629_s.1
    have htl_629 := hY.1.2.2.1
    have hni_629 : niN f n E (by2 f (cb + pc + 1)) = 0 ↔ _ := sy_ni hY q629_s hs9
    refine ps_st (S' := (633, [(0, .ref m0), (1, .int (nI pc)), (2, .int 183), (3, .int (nI (by2 f (cb + pc + 1))))], [.ref m0, .int (nI s10)], M)) rfl rfl rfl ?_
    refine pr_int (j := 9) (S' := (636, [(0, .ref m0), (1, .int (nI pc)), (2, .int 183), (3, .int (nI (by2 f (cb + pc + 1))))], [.int (nI s9), .int (nI s10)], M)) rfl hR rfl hi9 rfl ?_
    refine ps_if2 (S1 := (648, [(0, .ref m0), (1, .int (nI pc)), (2, .int 183), (3, .int (nI (by2 f (cb + pc + 1))))], [], M)) (S2 := (639, [(0, .ref m0), (1, .int (nI pc)), (2, .int 183), (3, .int (nI (by2 f (cb + pc + 1))))], [], M)) rfl rfl rfl (fun c_636 => ?_) (fun c_636 => ?_)
    · have c_636 : ¬ (nI s10) = (nI s9) := of_decide_eq_true c_636
      have n_636 : ¬ (s10 = s9) := fun h9 => c_636 ((eq_nI (p := s10) (n := s9) (by omega) (by omega)).mpr h9)
      refine ps_st (S' := (649, [(0, .ref m0), (1, .int (nI pc)), (2, .int 183), (3, .int (nI (by2 f (cb + pc + 1))))], [.int 183], M)) rfl rfl rfl ?_
      refine ps_st (S' := (652, [(0, .ref m0), (1, .int (nI pc)), (2, .int 183), (3, .int (nI (by2 f (cb + pc + 1))))], [.int 185, .int 183], M)) rfl rfl rfl ?_
      refine ps_if2 (S1 := (686, [], [], M)) (S2 := (655, [(0, .ref m0), (1, .int (nI pc)), (2, .int 183), (3, .int (nI (by2 f (cb + pc + 1))))], [], M)) rfl rfl rfl (fun c_652 => ?_) (fun c_652 => ?_)
      rotate_left
      · exact absurd (by decide) (of_decide_eq_false c_652)
      refine ps_st (S' := (687, [], [.int 1], M)) rfl rfl rfl ?_
      refine ps_st (S' := (691, [], [.int 1], M)) rfl rfl rfl ?_
      exact ps_ret rfl rfl (⟨congrArg (fun x => some (Value.int (nI x))) (show 1 = if tg f E (by2 f (cb + pc + 1)) = 10 ∨ (tg f E (by2 f (cb + pc + 1)) = 11 ∧ 52 ≤ mj) then 1 else 0 from by
          first | ((repeat first | rw [if_pos (by omega)] | rw [if_neg (by omega)]) <;> first | rfl | omega) | ((repeat' split) <;> first | rfl | (exfalso; omega) | omega)), rfl⟩)
    · have c_636 : ¬ (¬ (nI s10) = (nI s9)) := of_decide_eq_false c_636
      have n_636 : s10 = s9 := (eq_nI (p := s10) (n := s9) (by omega) (by omega)).mp (Decidable.not_not.mp c_636)
      refine ps_st (S' := (640, [(0, .ref m0), (1, .int (nI pc)), (2, .int 183), (3, .int (nI (by2 f (cb + pc + 1))))], [.int 183], M)) rfl rfl rfl ?_
      refine ps_st (S' := (643, [(0, .ref m0), (1, .int (nI pc)), (2, .int 183), (3, .int (nI (by2 f (cb + pc + 1))))], [.int 183, .int 183], M)) rfl rfl rfl ?_
      refine ps_if2 (S1 := (648, [(0, .ref m0), (1, .int (nI pc)), (2, .int 183), (3, .int (nI (by2 f (cb + pc + 1))))], [], M)) (S2 := (646, [(0, .ref m0), (1, .int (nI pc)), (2, .int 183), (3, .int (nI (by2 f (cb + pc + 1))))], [], M)) rfl rfl rfl (fun c_643 => ?_) (fun c_643 => ?_)
      rotate_left
      · exact absurd (by decide) (of_decide_eq_false c_643)
      refine ps_st (S' := (649, [(0, .ref m0), (1, .int (nI pc)), (2, .int 183), (3, .int (nI (by2 f (cb + pc + 1))))], [.int 183], M)) rfl rfl rfl ?_
      refine ps_st (S' := (652, [(0, .ref m0), (1, .int (nI pc)), (2, .int 183), (3, .int (nI (by2 f (cb + pc + 1))))], [.int 185, .int 183], M)) rfl rfl rfl ?_
      refine ps_if2 (S1 := (686, [], [], M)) (S2 := (655, [(0, .ref m0), (1, .int (nI pc)), (2, .int 183), (3, .int (nI (by2 f (cb + pc + 1))))], [], M)) rfl rfl rfl (fun c_652 => ?_) (fun c_652 => ?_)
      rotate_left
      · exact absurd (by decide) (of_decide_eq_false c_652)
      refine ps_st (S' := (687, [], [.int 1], M)) rfl rfl rfl ?_
      refine ps_st (S' := (691, [], [.int 1], M)) rfl rfl rfl ?_
      exact ps_ret rfl rfl (⟨congrArg (fun x => some (Value.int (nI x))) (show 1 = if tg f E (by2 f (cb + pc + 1)) = 10 ∨ (tg f E (by2 f (cb + pc + 1)) = 11 ∧ 52 ≤ mj) then 1 else 0 from by
          first | ((repeat first | rw [if_pos (by omega)] | rw [if_neg (by omega)]) <;> first | rfl | omega) | ((repeat' split) <;> first | rfl | (exfalso; omega) | omega)), rfl⟩)
  · have c_599 : ¬ ((nI (tg f E (by2 f (cb + pc + 1)))) = 10) := of_decide_eq_false c_599
    have n_599 : ¬ (tg f E (by2 f (cb + pc + 1)) = 10) := fun h9 => c_599 ((eq_nI (p := tg f E (by2 f (cb + pc + 1))) (n := 10) (Nat.lt_trans (tg_lt _ _ _) (by decide)) (by decide)).mpr h9)
    refine ps_st (S' := (603, [(4, .int (nI (tg f E (by2 f (cb + pc + 1))))), (3, .int (nI (by2 f (cb + pc + 1)))), (0, .ref m0), (1, .int (nI pc)), (2, .int 183)], [.int 183], M)) rfl rfl rfl ?_
    refine ps_st (S' := (606, [(4, .int (nI (tg f E (by2 f (cb + pc + 1))))), (3, .int (nI (by2 f (cb + pc + 1)))), (0, .ref m0), (1, .int (nI pc)), (2, .int 183)], [.int 182, .int 183], M)) rfl rfl rfl ?_
    refine ps_if2 (S1 := (625, [], [], M)) (S2 := (609, [(4, .int (nI (tg f E (by2 f (cb + pc + 1))))), (3, .int (nI (by2 f (cb + pc + 1)))), (0, .ref m0), (1, .int (nI pc)), (2, .int 183)], [], M)) rfl rfl rfl (fun c_606 => ?_) (fun c_606 => ?_)
    · exact absurd (of_decide_eq_true c_606) (by decide)
    refine ps_st (S' := (611, [(4, .int (nI (tg f E (by2 f (cb + pc + 1))))), (3, .int (nI (by2 f (cb + pc + 1)))), (0, .ref m0), (1, .int (nI pc)), (2, .int 183)], [.int (nI (tg f E (by2 f (cb + pc + 1))))], M)) rfl rfl rfl ?_
    refine ps_st (S' := (613, [(4, .int (nI (tg f E (by2 f (cb + pc + 1))))), (3, .int (nI (by2 f (cb + pc + 1)))), (0, .ref m0), (1, .int (nI pc)), (2, .int 183)], [.int 11, .int (nI (tg f E (by2 f (cb + pc + 1))))], M)) rfl rfl rfl ?_
    refine ps_if2 (S1 := (625, [], [], M)) (S2 := (616, [(4, .int (nI (tg f E (by2 f (cb + pc + 1))))), (3, .int (nI (by2 f (cb + pc + 1)))), (0, .ref m0), (1, .int (nI pc)), (2, .int 183)], [], M)) rfl rfl rfl (fun c_613 => ?_) (fun c_613 => ?_)
    · have c_613 : ¬ (nI (tg f E (by2 f (cb + pc + 1)))) = 11 := of_decide_eq_true c_613
      have n_613 : ¬ (tg f E (by2 f (cb + pc + 1)) = 11) := fun h9 => c_613 ((eq_nI (p := tg f E (by2 f (cb + pc + 1))) (n := 11) (Nat.lt_trans (tg_lt _ _ _) (by decide)) (by decide)).mpr h9)
      refine ps_st (S' := (626, [], [.int 0], M)) rfl rfl rfl ?_
      exact ps_ret rfl rfl (⟨congrArg (fun x => some (Value.int (nI x))) (show 0 = if tg f E (by2 f (cb + pc + 1)) = 10 ∨ (tg f E (by2 f (cb + pc + 1)) = 11 ∧ 52 ≤ mj) then 1 else 0 from by
          first | ((repeat first | rw [if_pos (by omega)] | rw [if_neg (by omega)]) <;> first | rfl | omega) | ((repeat' split) <;> first | rfl | (exfalso; omega) | omega)), rfl⟩)
    · have c_613 : ¬ (¬ (nI (tg f E (by2 f (cb + pc + 1)))) = 11) := of_decide_eq_false c_613
      have n_613 : tg f E (by2 f (cb + pc + 1)) = 11 := (eq_nI (p := tg f E (by2 f (cb + pc + 1))) (n := 11) (Nat.lt_trans (tg_lt _ _ _) (by decide)) (by decide)).mp (Decidable.not_not.mp c_613)
      refine ps_st (S' := (617, [(4, .int (nI (tg f E (by2 f (cb + pc + 1))))), (3, .int (nI (by2 f (cb + pc + 1)))), (0, .ref m0), (1, .int (nI pc)), (2, .int 183)], [.ref m0], M)) rfl rfl rfl ?_
      refine pr_int (j := 53) (S' := (620, [(4, .int (nI (tg f E (by2 f (cb + pc + 1))))), (3, .int (nI (by2 f (cb + pc + 1)))), (0, .ref m0), (1, .int (nI pc)), (2, .int 183)], [.int (nI mj)], M)) rfl hR rfl hi53 rfl ?_
      refine ps_st (S' := (622, [(4, .int (nI (tg f E (by2 f (cb + pc + 1))))), (3, .int (nI (by2 f (cb + pc + 1)))), (0, .ref m0), (1, .int (nI pc)), (2, .int 183)], [.int 52, .int (nI mj)], M)) rfl rfl rfl ?_
      refine ps_if2 (S1 := (627, [(0, .ref m0), (1, .int (nI pc)), (2, .int 183), (3, .int (nI (by2 f (cb + pc + 1))))], [], M)) (S2 := (625, [], [], M)) rfl rfl rfl (fun c_622 => ?_) (fun c_622 => ?_)
      · have c_622 : 52 ≤ (nI mj) := of_decide_eq_true c_622
        have n_622 : 52 ≤ mj := (le_nI (p := 52) (n := mj) (by decide) (by omega)).mp c_622
        refine ps_st (S' := (628, [(0, .ref m0), (1, .int (nI pc)), (2, .int 183), (3, .int (nI (by2 f (cb + pc + 1))))], [.ref m0], M)) rfl rfl rfl ?_
        refine ps_st (S' := (629, [(0, .ref m0), (1, .int (nI pc)), (2, .int 183), (3, .int (nI (by2 f (cb + pc + 1))))], [.int (nI (by2 f (cb + pc + 1))), .ref m0], M)) rfl rfl rfl ?_
        refine pl_call (a := [.ref m0, .int (nI (by2 f (cb + pc + 1)))]) (rest := []) rfl rfl rfl (rd_nameOf (n := n) (f := f) (tx := tx) (cN := cN) (A := A) (N := N) (mj := mj) (E := E) (k := (by2 f (cb + pc + 1))) hR hi51 hi52 hi53 hF hY hP (hEP) (hN) (hmj) (by omega) ((hPF (by2 f (cb + pc + 1))).1 (by omega) |>.1) ((hPF (by2 f (cb + pc + 1))).1 (by omega) |>.2.1)) (fun v11 M12 q13 => ?_)
        obtain ⟨s14, q629_s, rfl, rfl⟩ := q13
        show pl _ _ _ (632, [(0, .ref m0), (1, .int (nI pc)), (2, .int 183), (3, .int (nI (by2 f (cb + pc + 1))))], [.int (nI s14)], M) _
        have hsl_629 := q629_s.1
        have htl_629 := hY.1.2.2.1
        have hni_629 : niN f n E (by2 f (cb + pc + 1)) = 0 ↔ _ := sy_ni hY q629_s hs9
        refine ps_st (S' := (633, [(0, .ref m0), (1, .int (nI pc)), (2, .int 183), (3, .int (nI (by2 f (cb + pc + 1))))], [.ref m0, .int (nI s14)], M)) rfl rfl rfl ?_
        refine pr_int (j := 9) (S' := (636, [(0, .ref m0), (1, .int (nI pc)), (2, .int 183), (3, .int (nI (by2 f (cb + pc + 1))))], [.int (nI s9), .int (nI s14)], M)) rfl hR rfl hi9 rfl ?_
        refine ps_if2 (S1 := (648, [(0, .ref m0), (1, .int (nI pc)), (2, .int 183), (3, .int (nI (by2 f (cb + pc + 1))))], [], M)) (S2 := (639, [(0, .ref m0), (1, .int (nI pc)), (2, .int 183), (3, .int (nI (by2 f (cb + pc + 1))))], [], M)) rfl rfl rfl (fun c_636 => ?_) (fun c_636 => ?_)
        · have c_636 : ¬ (nI s14) = (nI s9) := of_decide_eq_true c_636
          have n_636 : ¬ (s14 = s9) := fun h9 => c_636 ((eq_nI (p := s14) (n := s9) (by omega) (by omega)).mpr h9)
          refine ps_st (S' := (649, [(0, .ref m0), (1, .int (nI pc)), (2, .int 183), (3, .int (nI (by2 f (cb + pc + 1))))], [.int 183], M)) rfl rfl rfl ?_
          refine ps_st (S' := (652, [(0, .ref m0), (1, .int (nI pc)), (2, .int 183), (3, .int (nI (by2 f (cb + pc + 1))))], [.int 185, .int 183], M)) rfl rfl rfl ?_
          refine ps_if2 (S1 := (686, [], [], M)) (S2 := (655, [(0, .ref m0), (1, .int (nI pc)), (2, .int 183), (3, .int (nI (by2 f (cb + pc + 1))))], [], M)) rfl rfl rfl (fun c_652 => ?_) (fun c_652 => ?_)
          rotate_left
          · exact absurd (by decide) (of_decide_eq_false c_652)
          refine ps_st (S' := (687, [], [.int 1], M)) rfl rfl rfl ?_
          refine ps_st (S' := (691, [], [.int 1], M)) rfl rfl rfl ?_
          exact ps_ret rfl rfl (⟨congrArg (fun x => some (Value.int (nI x))) (show 1 = if tg f E (by2 f (cb + pc + 1)) = 10 ∨ (tg f E (by2 f (cb + pc + 1)) = 11 ∧ 52 ≤ mj) then 1 else 0 from by
              first | ((repeat first | rw [if_pos (by omega)] | rw [if_neg (by omega)]) <;> first | rfl | omega) | ((repeat' split) <;> first | rfl | (exfalso; omega) | omega)), rfl⟩)
        · have c_636 : ¬ (¬ (nI s14) = (nI s9)) := of_decide_eq_false c_636
          have n_636 : s14 = s9 := (eq_nI (p := s14) (n := s9) (by omega) (by omega)).mp (Decidable.not_not.mp c_636)
          refine ps_st (S' := (640, [(0, .ref m0), (1, .int (nI pc)), (2, .int 183), (3, .int (nI (by2 f (cb + pc + 1))))], [.int 183], M)) rfl rfl rfl ?_
          refine ps_st (S' := (643, [(0, .ref m0), (1, .int (nI pc)), (2, .int 183), (3, .int (nI (by2 f (cb + pc + 1))))], [.int 183, .int 183], M)) rfl rfl rfl ?_
          refine ps_if2 (S1 := (648, [(0, .ref m0), (1, .int (nI pc)), (2, .int 183), (3, .int (nI (by2 f (cb + pc + 1))))], [], M)) (S2 := (646, [(0, .ref m0), (1, .int (nI pc)), (2, .int 183), (3, .int (nI (by2 f (cb + pc + 1))))], [], M)) rfl rfl rfl (fun c_643 => ?_) (fun c_643 => ?_)
          rotate_left
          · exact absurd (by decide) (of_decide_eq_false c_643)
          refine ps_st (S' := (649, [(0, .ref m0), (1, .int (nI pc)), (2, .int 183), (3, .int (nI (by2 f (cb + pc + 1))))], [.int 183], M)) rfl rfl rfl ?_
          refine ps_st (S' := (652, [(0, .ref m0), (1, .int (nI pc)), (2, .int 183), (3, .int (nI (by2 f (cb + pc + 1))))], [.int 185, .int 183], M)) rfl rfl rfl ?_
          refine ps_if2 (S1 := (686, [], [], M)) (S2 := (655, [(0, .ref m0), (1, .int (nI pc)), (2, .int 183), (3, .int (nI (by2 f (cb + pc + 1))))], [], M)) rfl rfl rfl (fun c_652 => ?_) (fun c_652 => ?_)
          rotate_left
          · exact absurd (by decide) (of_decide_eq_false c_652)
          refine ps_st (S' := (687, [], [.int 1], M)) rfl rfl rfl ?_
          refine ps_st (S' := (691, [], [.int 1], M)) rfl rfl rfl ?_
          exact ps_ret rfl rfl (⟨congrArg (fun x => some (Value.int (nI x))) (show 1 = if tg f E (by2 f (cb + pc + 1)) = 10 ∨ (tg f E (by2 f (cb + pc + 1)) = 11 ∧ 52 ≤ mj) then 1 else 0 from by
              first | ((repeat first | rw [if_pos (by omega)] | rw [if_neg (by omega)]) <;> first | rfl | omega) | ((repeat' split) <;> first | rfl | (exfalso; omega) | omega)), rfl⟩)
      · have c_622 : ¬ (52 ≤ (nI mj)) := of_decide_eq_false c_622
        have n_622 : ¬ (52 ≤ mj) := fun h9 => c_622 ((le_nI (p := 52) (n := mj) (by decide) (by omega)).mpr h9)
        refine ps_st (S' := (626, [], [.int 0], M)) rfl rfl rfl ?_
        exact ps_ret rfl rfl (⟨congrArg (fun x => some (Value.int (nI x))) (show 0 = if tg f E (by2 f (cb + pc + 1)) = 10 ∨ (tg f E (by2 f (cb + pc + 1)) = 11 ∧ 52 ≤ mj) then 1 else 0 from by
            first | ((repeat first | rw [if_pos (by omega)] | rw [if_neg (by omega)]) <;> first | rfl | omega) | ((repeat' split) <;> first | rfl | (exfalso; omega) | omega)), rfl⟩)
set_option maxHeartbeats 1000000 in
theorem rd_op184 {g : xe_G} {m0 : Nat} {q : Nat → Nat} {z : Nat × Nat} {I : rI} {R : rR} {M : mi_H} {n : Nat} {f : Nat → Int32} {tx : List (List Nat)} {cN : Nat} {A : Nat → Nat} {N mj : Nat} {E : List (Nat × Nat)} {cb ml s9 pc : Nat} (hR : RS g m0 q z I R M) (hi51 : I 51 = some 0) (hi52 : I 52 = some (nI N)) (hi53 : I 53 = some (nI mj)) (hi77 : I 77 = some (nI cb)) (hi79 : I 79 = some (nI ml)) (hi9 : I 9 = some (nI s9)) (hF : FK n f I R) (hY : SYT tx cN A I R) (hP : RPV f n E tx N I R) (hEP : EP f n E) (hN : N < 65536) (hmj : mj < 65536) (hml : ml < 65536) (hs9 : s9 < tx.length ∧ tx.getD s9 [] = ltx 14) (hCP : CP f n E) (hPF : PF f n E) (hin : cb + pc + 3 ≤ n) : pt (mT g) 228 [.ref m0, .int (nI pc), .int 184] M (fun v M' => (v = some (.int (nI (if (tg f E (by2 f (cb + pc + 1)) = 10 ∨ (tg f E (by2 f (cb + pc + 1)) = 11 ∧ 52 ≤ mj)) ∧ niN f n E (by2 f (cb + pc + 1)) = 0 then 1 else 0))) ∧ M = M')) := by
  refine pt_in (b := mb_228 g) rfl (fun kf => ?_)
  show pl (mT g) kf (mb_228 g).2 (0, [(0, .ref m0), (1, .int (nI pc)), (2, .int 184)], [], M) _
  have hn := hF.1
  have htl := hY.1.2.2.1
  refine ps_st (S' := (1, [(0, .ref m0), (1, .int (nI pc)), (2, .int 184)], [.int 184], M)) rfl rfl rfl ?_
  refine ps_st (S' := (4, [(0, .ref m0), (1, .int (nI pc)), (2, .int 184)], [.int 168, .int 184], M)) rfl rfl rfl ?_
  refine ps_if2 (S1 := (21, [(0, .ref m0), (1, .int (nI pc)), (2, .int 184)], [], M)) (S2 := (7, [(0, .ref m0), (1, .int (nI pc)), (2, .int 184)], [], M)) rfl rfl rfl (fun c_4 => ?_) (fun c_4 => ?_)
  · exact absurd (of_decide_eq_true c_4) (by decide)
  refine ps_st (S' := (8, [(0, .ref m0), (1, .int (nI pc)), (2, .int 184)], [.int 184], M)) rfl rfl rfl ?_
  refine ps_st (S' := (11, [(0, .ref m0), (1, .int (nI pc)), (2, .int 184)], [.int 169, .int 184], M)) rfl rfl rfl ?_
  refine ps_if2 (S1 := (21, [(0, .ref m0), (1, .int (nI pc)), (2, .int 184)], [], M)) (S2 := (14, [(0, .ref m0), (1, .int (nI pc)), (2, .int 184)], [], M)) rfl rfl rfl (fun c_11 => ?_) (fun c_11 => ?_)
  · exact absurd (of_decide_eq_true c_11) (by decide)
  refine ps_st (S' := (15, [(0, .ref m0), (1, .int (nI pc)), (2, .int 184)], [.int 184], M)) rfl rfl rfl ?_
  refine ps_st (S' := (18, [(0, .ref m0), (1, .int (nI pc)), (2, .int 184)], [.int 201, .int 184], M)) rfl rfl rfl ?_
  refine ps_if2 (S1 := (58, [(0, .ref m0), (1, .int (nI pc)), (2, .int 184)], [], M)) (S2 := (21, [(0, .ref m0), (1, .int (nI pc)), (2, .int 184)], [], M)) rfl rfl rfl (fun c_18 => ?_) (fun c_18 => ?_)
  rotate_left
  · exact absurd (by decide) (of_decide_eq_false c_18)
  refine ps_st (S' := (59, [(0, .ref m0), (1, .int (nI pc)), (2, .int 184)], [.int 184], M)) rfl rfl rfl ?_
  refine ps_st (S' := (61, [(0, .ref m0), (1, .int (nI pc)), (2, .int 184)], [.int 21, .int 184], M)) rfl rfl rfl ?_
  refine ps_if2 (S1 := (70, [(0, .ref m0), (1, .int (nI pc)), (2, .int 184)], [], M)) (S2 := (64, [(0, .ref m0), (1, .int (nI pc)), (2, .int 184)], [], M)) rfl rfl rfl (fun c_61 => ?_) (fun c_61 => ?_)
  · exact absurd (of_decide_eq_true c_61) (by decide)
  refine ps_st (S' := (65, [(0, .ref m0), (1, .int (nI pc)), (2, .int 184)], [.int 184], M)) rfl rfl rfl ?_
  refine ps_st (S' := (67, [(0, .ref m0), (1, .int (nI pc)), (2, .int 184)], [.int 25, .int 184], M)) rfl rfl rfl ?_
  refine ps_if2 (S1 := (82, [(0, .ref m0), (1, .int (nI pc)), (2, .int 184)], [], M)) (S2 := (70, [(0, .ref m0), (1, .int (nI pc)), (2, .int 184)], [], M)) rfl rfl rfl (fun c_67 => ?_) (fun c_67 => ?_)
  · exact absurd (of_decide_eq_true c_67) (by decide)
  refine ps_st (S' := (71, [(0, .ref m0), (1, .int (nI pc)), (2, .int 184)], [.int 184], M)) rfl rfl rfl ?_
  refine ps_st (S' := (73, [(0, .ref m0), (1, .int (nI pc)), (2, .int 184)], [.int 54, .int 184], M)) rfl rfl rfl ?_
  refine ps_if2 (S1 := (127, [(0, .ref m0), (1, .int (nI pc)), (2, .int 184)], [], M)) (S2 := (76, [(0, .ref m0), (1, .int (nI pc)), (2, .int 184)], [], M)) rfl rfl rfl (fun c_73 => ?_) (fun c_73 => ?_)
  · exact absurd (of_decide_eq_true c_73) (by decide)
  refine ps_st (S' := (77, [(0, .ref m0), (1, .int (nI pc)), (2, .int 184)], [.int 184], M)) rfl rfl rfl ?_
  refine ps_st (S' := (79, [(0, .ref m0), (1, .int (nI pc)), (2, .int 184)], [.int 58, .int 184], M)) rfl rfl rfl ?_
  refine ps_if2 (S1 := (127, [(0, .ref m0), (1, .int (nI pc)), (2, .int 184)], [], M)) (S2 := (82, [(0, .ref m0), (1, .int (nI pc)), (2, .int 184)], [], M)) rfl rfl rfl (fun c_79 => ?_) (fun c_79 => ?_)
  rotate_left
  · exact absurd (by decide) (of_decide_eq_false c_79)
  refine ps_st (S' := (128, [(0, .ref m0), (1, .int (nI pc)), (2, .int 184)], [.int 184], M)) rfl rfl rfl ?_
  refine ps_st (S' := (130, [(0, .ref m0), (1, .int (nI pc)), (2, .int 184)], [.int 26, .int 184], M)) rfl rfl rfl ?_
  refine ps_if2 (S1 := (139, [(0, .ref m0), (1, .int (nI pc)), (2, .int 184)], [], M)) (S2 := (133, [(0, .ref m0), (1, .int (nI pc)), (2, .int 184)], [], M)) rfl rfl rfl (fun c_130 => ?_) (fun c_130 => ?_)
  · exact absurd (of_decide_eq_true c_130) (by decide)
  refine ps_st (S' := (134, [(0, .ref m0), (1, .int (nI pc)), (2, .int 184)], [.int 184], M)) rfl rfl rfl ?_
  refine ps_st (S' := (136, [(0, .ref m0), (1, .int (nI pc)), (2, .int 184)], [.int 45, .int 184], M)) rfl rfl rfl ?_
  refine ps_if2 (S1 := (151, [(0, .ref m0), (2, .int 184)], [], M)) (S2 := (139, [(0, .ref m0), (1, .int (nI pc)), (2, .int 184)], [], M)) rfl rfl rfl (fun c_136 => ?_) (fun c_136 => ?_)
  · exact absurd (of_decide_eq_true c_136) (by decide)
  refine ps_st (S' := (140, [(0, .ref m0), (1, .int (nI pc)), (2, .int 184)], [.int 184], M)) rfl rfl rfl ?_
  refine ps_st (S' := (142, [(0, .ref m0), (1, .int (nI pc)), (2, .int 184)], [.int 59, .int 184], M)) rfl rfl rfl ?_
  refine ps_if2 (S1 := (196, [(0, .ref m0), (1, .int (nI pc)), (2, .int 184)], [], M)) (S2 := (145, [(0, .ref m0), (1, .int (nI pc)), (2, .int 184)], [], M)) rfl rfl rfl (fun c_142 => ?_) (fun c_142 => ?_)
  · exact absurd (of_decide_eq_true c_142) (by decide)
  refine ps_st (S' := (146, [(0, .ref m0), (1, .int (nI pc)), (2, .int 184)], [.int 184], M)) rfl rfl rfl ?_
  refine ps_st (S' := (148, [(0, .ref m0), (1, .int (nI pc)), (2, .int 184)], [.int 78, .int 184], M)) rfl rfl rfl ?_
  refine ps_if2 (S1 := (196, [(0, .ref m0), (1, .int (nI pc)), (2, .int 184)], [], M)) (S2 := (151, [(0, .ref m0), (2, .int 184)], [], M)) rfl rfl rfl (fun c_148 => ?_) (fun c_148 => ?_)
  rotate_left
  · exact absurd (by decide) (of_decide_eq_false c_148)
  refine ps_st (S' := (197, [(0, .ref m0), (1, .int (nI pc)), (2, .int 184)], [.int 184], M)) rfl rfl rfl ?_
  refine ps_st (S' := (200, [(0, .ref m0), (1, .int (nI pc)), (2, .int 184)], [.int 132, .int 184], M)) rfl rfl rfl ?_
  refine ps_if2 (S1 := (216, [(0, .ref m0), (1, .int (nI pc)), (2, .int 184)], [], M)) (S2 := (203, [(0, .ref m0), (1, .int (nI pc)), (2, .int 184)], [], M)) rfl rfl rfl (fun c_200 => ?_) (fun c_200 => ?_)
  rotate_left
  · exact absurd (by decide) (of_decide_eq_false c_200)
  refine ps_st (S' := (217, [(0, .ref m0), (1, .int (nI pc)), (2, .int 184)], [.int 184], M)) rfl rfl rfl ?_
  refine ps_st (S' := (220, [(0, .ref m0), (1, .int (nI pc)), (2, .int 184)], [.int 196, .int 184], M)) rfl rfl rfl ?_
  refine ps_if2 (S1 := (296, [(0, .ref m0), (1, .int (nI pc)), (2, .int 184)], [], M)) (S2 := (223, [(0, .ref m0), (1, .int (nI pc)), (2, .int 184)], [], M)) rfl rfl rfl (fun c_220 => ?_) (fun c_220 => ?_)
  rotate_left
  · exact absurd (by decide) (of_decide_eq_false c_220)
  refine ps_st (S' := (297, [(0, .ref m0), (1, .int (nI pc)), (2, .int 184)], [.int 184], M)) rfl rfl rfl ?_
  refine ps_st (S' := (300, [(0, .ref m0), (1, .int (nI pc)), (2, .int 184)], [.int 188, .int 184], M)) rfl rfl rfl ?_
  refine ps_if2 (S1 := (332, [(0, .ref m0), (1, .int (nI pc)), (2, .int 184)], [], M)) (S2 := (303, [(0, .ref m0), (1, .int (nI pc)), (2, .int 184)], [], M)) rfl rfl rfl (fun c_300 => ?_) (fun c_300 => ?_)
  rotate_left
  · exact absurd (by decide) (of_decide_eq_false c_300)
  refine ps_st (S' := (333, [(0, .ref m0), (1, .int (nI pc)), (2, .int 184)], [.int 184], M)) rfl rfl rfl ?_
  refine ps_st (S' := (335, [(0, .ref m0), (1, .int (nI pc)), (2, .int 184)], [.int 18, .int 184], M)) rfl rfl rfl ?_
  refine ps_if2 (S1 := (513, [(0, .ref m0), (1, .int (nI pc)), (2, .int 184)], [], M)) (S2 := (338, [(0, .ref m0), (1, .int (nI pc)), (2, .int 184)], [], M)) rfl rfl rfl (fun c_335 => ?_) (fun c_335 => ?_)
  · exact absurd (of_decide_eq_true c_335) (by decide)
  refine ps_st (S' := (339, [(0, .ref m0), (1, .int (nI pc)), (2, .int 184)], [.int 184], M)) rfl rfl rfl ?_
  refine ps_st (S' := (341, [(0, .ref m0), (1, .int (nI pc)), (2, .int 184)], [.int 20, .int 184], M)) rfl rfl rfl ?_
  refine ps_if2 (S1 := (513, [(0, .ref m0), (1, .int (nI pc)), (2, .int 184)], [], M)) (S2 := (344, [(0, .ref m0), (1, .int (nI pc)), (2, .int 184)], [], M)) rfl rfl rfl (fun c_341 => ?_) (fun c_341 => ?_)
  rotate_left
  · exact absurd (by decide) (of_decide_eq_false c_341)
  refine ps_st (S' := (514, [(0, .ref m0), (1, .int (nI pc)), (2, .int 184)], [.int 184], M)) rfl rfl rfl ?_
  refine ps_st (S' := (517, [(0, .ref m0), (1, .int (nI pc)), (2, .int 184)], [.int 178, .int 184], M)) rfl rfl rfl ?_
  refine ps_if2 (S1 := (549, [(0, .ref m0), (1, .int (nI pc)), (2, .int 184)], [], M)) (S2 := (520, [(0, .ref m0), (1, .int (nI pc)), (2, .int 184)], [], M)) rfl rfl rfl (fun c_517 => ?_) (fun c_517 => ?_)
  · exact absurd (of_decide_eq_true c_517) (by decide)
  refine ps_st (S' := (521, [(0, .ref m0), (1, .int (nI pc)), (2, .int 184)], [.int 184], M)) rfl rfl rfl ?_
  refine ps_st (S' := (524, [(0, .ref m0), (1, .int (nI pc)), (2, .int 184)], [.int 181, .int 184], M)) rfl rfl rfl ?_
  refine ps_if2 (S1 := (549, [(0, .ref m0), (1, .int (nI pc)), (2, .int 184)], [], M)) (S2 := (527, [(0, .ref m0), (1, .int (nI pc)), (2, .int 184)], [], M)) rfl rfl rfl (fun c_524 => ?_) (fun c_524 => ?_)
  rotate_left
  · exact absurd (by decide) (of_decide_eq_false c_524)
  refine ps_st (S' := (550, [(0, .ref m0), (1, .int (nI pc)), (2, .int 184)], [.int 184], M)) rfl rfl rfl ?_
  refine ps_st (S' := (553, [(0, .ref m0), (1, .int (nI pc)), (2, .int 184)], [.int 182, .int 184], M)) rfl rfl rfl ?_
  refine ps_if2 (S1 := (692, [(0, .ref m0), (1, .int (nI pc)), (2, .int 184)], [], M)) (S2 := (556, [(0, .ref m0), (1, .int (nI pc)), (2, .int 184)], [], M)) rfl rfl rfl (fun c_553 => ?_) (fun c_553 => ?_)
  · exact absurd (of_decide_eq_true c_553) (by decide)
  refine ps_st (S' := (557, [(0, .ref m0), (1, .int (nI pc)), (2, .int 184)], [.int 184], M)) rfl rfl rfl ?_
  refine ps_st (S' := (560, [(0, .ref m0), (1, .int (nI pc)), (2, .int 184)], [.int 185, .int 184], M)) rfl rfl rfl ?_
  refine ps_if2 (S1 := (692, [(0, .ref m0), (1, .int (nI pc)), (2, .int 184)], [], M)) (S2 := (563, [(0, .ref m0), (1, .int (nI pc)), (2, .int 184)], [], M)) rfl rfl rfl (fun c_560 => ?_) (fun c_560 => ?_)
  · exact absurd (of_decide_eq_true c_560) (by decide)
  refine ps_st (S' := (564, [(0, .ref m0), (1, .int (nI pc)), (2, .int 184)], [.ref m0], M)) rfl rfl rfl ?_
  refine ps_st (S' := (565, [(0, .ref m0), (1, .int (nI pc)), (2, .int 184)], [.int (nI pc), .ref m0], M)) rfl rfl rfl ?_
  refine ps_st (S' := (566, [(0, .ref m0), (1, .int (nI pc)), (2, .int 184)], [.int 1, .int (nI pc), .ref m0], M)) rfl rfl rfl ?_
  refine ps_st (S' := (567, [(0, .ref m0), (1, .int (nI pc)), (2, .int 184)], [.int ((nI pc) + 1), .ref m0], M)) rfl rfl rfl ?_
  rw [nI_add1 (p := pc) (k := 1) (x := 1) rfl (by omega)]
  show pl _ _ _ (_, [(0, .ref m0), (1, .int (nI pc)), (2, .int 184)], [.int (nI (pc + 1)), .ref m0], M) _
  refine pl_call (a := [.ref m0, .int (nI (pc + 1))]) (rest := []) rfl rfl rfl (rd_b2 (n := n) (f := f) (cb := cb) (p := (pc + 1)) hR hi77 hF (by omega)) (fun v1 M2 q3 => ?_)
  obtain ⟨rfl, rfl⟩ := q3
  show pl _ _ _ (570, [(0, .ref m0), (1, .int (nI pc)), (2, .int 184)], [.int (nI (by2 f (cb + (pc + 1))))], M) _
  show pl _ _ _ (_, [(0, .ref m0), (1, .int (nI pc)), (2, .int 184)], [.int (nI (by2 f (cb + pc + 1)))], M) _
  have hb_567 := by2_lt f (cb + pc + 1)
  refine ps_st (S' := (571, [(3, .int (nI (by2 f (cb + pc + 1)))), (0, .ref m0), (1, .int (nI pc)), (2, .int 184)], [], M)) rfl rfl rfl ?_
  refine ps_st (S' := (572, [(3, .int (nI (by2 f (cb + pc + 1)))), (0, .ref m0), (1, .int (nI pc)), (2, .int 184)], [.ref m0], M)) rfl rfl rfl ?_
  refine ps_st (S' := (573, [(3, .int (nI (by2 f (cb + pc + 1)))), (0, .ref m0), (1, .int (nI pc)), (2, .int 184)], [.int (nI (by2 f (cb + pc + 1))), .ref m0], M)) rfl rfl rfl ?_
  refine pl_call (a := [.ref m0, .int (nI (by2 f (cb + pc + 1)))]) (rest := []) rfl rfl rfl (rd_tag (n := n) (f := f) (tx := tx) (cN := cN) (A := A) (N := N) (mj := mj) (E := E) (k := (by2 f (cb + pc + 1))) hR hi51 hi52 hi53 hF hY hP (hEP) (hN) (hmj) (by2_lt _ _)) (fun v4 M5 q6 => ?_)
  obtain ⟨rfl, rfl⟩ := q6
  show pl _ _ _ (576, [(3, .int (nI (by2 f (cb + pc + 1)))), (0, .ref m0), (1, .int (nI pc)), (2, .int 184)], [.int (nI (tg f E (by2 f (cb + pc + 1))))], M) _
  have htg_573 := tg_lt f E (by2 f (cb + pc + 1))
  refine ps_st (S' := (578, [(4, .int (nI (tg f E (by2 f (cb + pc + 1))))), (3, .int (nI (by2 f (cb + pc + 1)))), (0, .ref m0), (1, .int (nI pc)), (2, .int 184)], [], M)) rfl rfl rfl ?_
  refine ps_st (S' := (579, [(4, .int (nI (tg f E (by2 f (cb + pc + 1))))), (3, .int (nI (by2 f (cb + pc + 1)))), (0, .ref m0), (1, .int (nI pc)), (2, .int 184)], [.int 184], M)) rfl rfl rfl ?_
  refine ps_st (S' := (582, [(4, .int (nI (tg f E (by2 f (cb + pc + 1))))), (3, .int (nI (by2 f (cb + pc + 1)))), (0, .ref m0), (1, .int (nI pc)), (2, .int 184)], [.int 185, .int 184], M)) rfl rfl rfl ?_
  refine ps_if2 (S1 := (595, [(4, .int (nI (tg f E (by2 f (cb + pc + 1))))), (3, .int (nI (by2 f (cb + pc + 1)))), (0, .ref m0), (1, .int (nI pc)), (2, .int 184)], [], M)) (S2 := (585, [(4, .int (nI (tg f E (by2 f (cb + pc + 1))))), (3, .int (nI (by2 f (cb + pc + 1)))), (0, .ref m0), (1, .int (nI pc)), (2, .int 184)], [], M)) rfl rfl rfl (fun c_582 => ?_) (fun c_582 => ?_)
  rotate_left
  · exact absurd (by decide) (of_decide_eq_false c_582)
  refine ps_st (S' := (597, [(4, .int (nI (tg f E (by2 f (cb + pc + 1))))), (3, .int (nI (by2 f (cb + pc + 1)))), (0, .ref m0), (1, .int (nI pc)), (2, .int 184)], [.int (nI (tg f E (by2 f (cb + pc + 1))))], M)) rfl rfl rfl ?_
  refine ps_st (S' := (599, [(4, .int (nI (tg f E (by2 f (cb + pc + 1))))), (3, .int (nI (by2 f (cb + pc + 1)))), (0, .ref m0), (1, .int (nI pc)), (2, .int 184)], [.int 10, .int (nI (tg f E (by2 f (cb + pc + 1))))], M)) rfl rfl rfl ?_
  refine ps_if2 (S1 := (627, [(0, .ref m0), (1, .int (nI pc)), (2, .int 184), (3, .int (nI (by2 f (cb + pc + 1))))], [], M)) (S2 := (602, [(4, .int (nI (tg f E (by2 f (cb + pc + 1))))), (3, .int (nI (by2 f (cb + pc + 1)))), (0, .ref m0), (1, .int (nI pc)), (2, .int 184)], [], M)) rfl rfl rfl (fun c_599 => ?_) (fun c_599 => ?_)
  · have c_599 : (nI (tg f E (by2 f (cb + pc + 1)))) = 10 := of_decide_eq_true c_599
    have n_599 : tg f E (by2 f (cb + pc + 1)) = 10 := (eq_nI (p := tg f E (by2 f (cb + pc + 1))) (n := 10) (Nat.lt_trans (tg_lt _ _ _) (by decide)) (by decide)).mp c_599
    refine ps_st (S' := (628, [(0, .ref m0), (1, .int (nI pc)), (2, .int 184), (3, .int (nI (by2 f (cb + pc + 1))))], [.ref m0], M)) rfl rfl rfl ?_
    refine ps_st (S' := (629, [(0, .ref m0), (1, .int (nI pc)), (2, .int 184), (3, .int (nI (by2 f (cb + pc + 1))))], [.int (nI (by2 f (cb + pc + 1))), .ref m0], M)) rfl rfl rfl ?_
    refine pl_call (a := [.ref m0, .int (nI (by2 f (cb + pc + 1)))]) (rest := []) rfl rfl rfl (rd_nameOf (n := n) (f := f) (tx := tx) (cN := cN) (A := A) (N := N) (mj := mj) (E := E) (k := (by2 f (cb + pc + 1))) hR hi51 hi52 hi53 hF hY hP (hEP) (hN) (hmj) (by omega) ((hPF (by2 f (cb + pc + 1))).1 (by omega) |>.1) ((hPF (by2 f (cb + pc + 1))).1 (by omega) |>.2.1)) (fun v7 M8 q9 => ?_)
    obtain ⟨s10, q629_s, rfl, rfl⟩ := q9
    show pl _ _ _ (632, [(0, .ref m0), (1, .int (nI pc)), (2, .int 184), (3, .int (nI (by2 f (cb + pc + 1))))], [.int (nI s10)], M) _
    have hsl_629 := q629_s.1
    have htl_629 := hY.1.2.2.1
    have hni_629 : niN f n E (by2 f (cb + pc + 1)) = 0 ↔ _ := sy_ni hY q629_s hs9
    refine ps_st (S' := (633, [(0, .ref m0), (1, .int (nI pc)), (2, .int 184), (3, .int (nI (by2 f (cb + pc + 1))))], [.ref m0, .int (nI s10)], M)) rfl rfl rfl ?_
    refine pr_int (j := 9) (S' := (636, [(0, .ref m0), (1, .int (nI pc)), (2, .int 184), (3, .int (nI (by2 f (cb + pc + 1))))], [.int (nI s9), .int (nI s10)], M)) rfl hR rfl hi9 rfl ?_
    refine ps_if2 (S1 := (648, [(0, .ref m0), (1, .int (nI pc)), (2, .int 184), (3, .int (nI (by2 f (cb + pc + 1))))], [], M)) (S2 := (639, [(0, .ref m0), (1, .int (nI pc)), (2, .int 184), (3, .int (nI (by2 f (cb + pc + 1))))], [], M)) rfl rfl rfl (fun c_636 => ?_) (fun c_636 => ?_)
    · have c_636 : ¬ (nI s10) = (nI s9) := of_decide_eq_true c_636
      have n_636 : ¬ (s10 = s9) := fun h9 => c_636 ((eq_nI (p := s10) (n := s9) (by omega) (by omega)).mpr h9)
      refine ps_st (S' := (649, [(0, .ref m0), (1, .int (nI pc)), (2, .int 184), (3, .int (nI (by2 f (cb + pc + 1))))], [.int 184], M)) rfl rfl rfl ?_
      refine ps_st (S' := (652, [(0, .ref m0), (1, .int (nI pc)), (2, .int 184), (3, .int (nI (by2 f (cb + pc + 1))))], [.int 185, .int 184], M)) rfl rfl rfl ?_
      refine ps_if2 (S1 := (686, [], [], M)) (S2 := (655, [(0, .ref m0), (1, .int (nI pc)), (2, .int 184), (3, .int (nI (by2 f (cb + pc + 1))))], [], M)) rfl rfl rfl (fun c_652 => ?_) (fun c_652 => ?_)
      rotate_left
      · exact absurd (by decide) (of_decide_eq_false c_652)
      refine ps_st (S' := (687, [], [.int 1], M)) rfl rfl rfl ?_
      refine ps_st (S' := (691, [], [.int 1], M)) rfl rfl rfl ?_
      exact ps_ret rfl rfl (⟨congrArg (fun x => some (Value.int (nI x))) (show 1 = if (tg f E (by2 f (cb + pc + 1)) = 10 ∨ (tg f E (by2 f (cb + pc + 1)) = 11 ∧ 52 ≤ mj)) ∧ niN f n E (by2 f (cb + pc + 1)) = 0 then 1 else 0 from by
          first | ((repeat first | rw [if_pos (by omega)] | rw [if_neg (by omega)]) <;> first | rfl | omega) | ((repeat' split) <;> first | rfl | (exfalso; omega) | omega)), rfl⟩)
    · have c_636 : ¬ (¬ (nI s10) = (nI s9)) := of_decide_eq_false c_636
      have n_636 : s10 = s9 := (eq_nI (p := s10) (n := s9) (by omega) (by omega)).mp (Decidable.not_not.mp c_636)
      refine ps_st (S' := (640, [(0, .ref m0), (1, .int (nI pc)), (2, .int 184), (3, .int (nI (by2 f (cb + pc + 1))))], [.int 184], M)) rfl rfl rfl ?_
      refine ps_st (S' := (643, [(0, .ref m0), (1, .int (nI pc)), (2, .int 184), (3, .int (nI (by2 f (cb + pc + 1))))], [.int 183, .int 184], M)) rfl rfl rfl ?_
      refine ps_if2 (S1 := (648, [(0, .ref m0), (1, .int (nI pc)), (2, .int 184), (3, .int (nI (by2 f (cb + pc + 1))))], [], M)) (S2 := (646, [(0, .ref m0), (1, .int (nI pc)), (2, .int 184), (3, .int (nI (by2 f (cb + pc + 1))))], [], M)) rfl rfl rfl (fun c_643 => ?_) (fun c_643 => ?_)
      · exact absurd (of_decide_eq_true c_643) (by decide)
      refine ps_st (S' := (647, [(0, .ref m0), (1, .int (nI pc)), (2, .int 184), (3, .int (nI (by2 f (cb + pc + 1))))], [.int 0], M)) rfl rfl rfl ?_
      exact ps_ret rfl rfl (⟨congrArg (fun x => some (Value.int (nI x))) (show 0 = if (tg f E (by2 f (cb + pc + 1)) = 10 ∨ (tg f E (by2 f (cb + pc + 1)) = 11 ∧ 52 ≤ mj)) ∧ niN f n E (by2 f (cb + pc + 1)) = 0 then 1 else 0 from by
          first | ((repeat first | rw [if_pos (by omega)] | rw [if_neg (by omega)]) <;> first | rfl | omega) | ((repeat' split) <;> first | rfl | (exfalso; omega) | omega)), rfl⟩)
  · have c_599 : ¬ ((nI (tg f E (by2 f (cb + pc + 1)))) = 10) := of_decide_eq_false c_599
    have n_599 : ¬ (tg f E (by2 f (cb + pc + 1)) = 10) := fun h9 => c_599 ((eq_nI (p := tg f E (by2 f (cb + pc + 1))) (n := 10) (Nat.lt_trans (tg_lt _ _ _) (by decide)) (by decide)).mpr h9)
    refine ps_st (S' := (603, [(4, .int (nI (tg f E (by2 f (cb + pc + 1))))), (3, .int (nI (by2 f (cb + pc + 1)))), (0, .ref m0), (1, .int (nI pc)), (2, .int 184)], [.int 184], M)) rfl rfl rfl ?_
    refine ps_st (S' := (606, [(4, .int (nI (tg f E (by2 f (cb + pc + 1))))), (3, .int (nI (by2 f (cb + pc + 1)))), (0, .ref m0), (1, .int (nI pc)), (2, .int 184)], [.int 182, .int 184], M)) rfl rfl rfl ?_
    refine ps_if2 (S1 := (625, [], [], M)) (S2 := (609, [(4, .int (nI (tg f E (by2 f (cb + pc + 1))))), (3, .int (nI (by2 f (cb + pc + 1)))), (0, .ref m0), (1, .int (nI pc)), (2, .int 184)], [], M)) rfl rfl rfl (fun c_606 => ?_) (fun c_606 => ?_)
    · exact absurd (of_decide_eq_true c_606) (by decide)
    refine ps_st (S' := (611, [(4, .int (nI (tg f E (by2 f (cb + pc + 1))))), (3, .int (nI (by2 f (cb + pc + 1)))), (0, .ref m0), (1, .int (nI pc)), (2, .int 184)], [.int (nI (tg f E (by2 f (cb + pc + 1))))], M)) rfl rfl rfl ?_
    refine ps_st (S' := (613, [(4, .int (nI (tg f E (by2 f (cb + pc + 1))))), (3, .int (nI (by2 f (cb + pc + 1)))), (0, .ref m0), (1, .int (nI pc)), (2, .int 184)], [.int 11, .int (nI (tg f E (by2 f (cb + pc + 1))))], M)) rfl rfl rfl ?_
    refine ps_if2 (S1 := (625, [], [], M)) (S2 := (616, [(4, .int (nI (tg f E (by2 f (cb + pc + 1))))), (3, .int (nI (by2 f (cb + pc + 1)))), (0, .ref m0), (1, .int (nI pc)), (2, .int 184)], [], M)) rfl rfl rfl (fun c_613 => ?_) (fun c_613 => ?_)
    · have c_613 : ¬ (nI (tg f E (by2 f (cb + pc + 1)))) = 11 := of_decide_eq_true c_613
      have n_613 : ¬ (tg f E (by2 f (cb + pc + 1)) = 11) := fun h9 => c_613 ((eq_nI (p := tg f E (by2 f (cb + pc + 1))) (n := 11) (Nat.lt_trans (tg_lt _ _ _) (by decide)) (by decide)).mpr h9)
      refine ps_st (S' := (626, [], [.int 0], M)) rfl rfl rfl ?_
      exact ps_ret rfl rfl (⟨congrArg (fun x => some (Value.int (nI x))) (show 0 = if (tg f E (by2 f (cb + pc + 1)) = 10 ∨ (tg f E (by2 f (cb + pc + 1)) = 11 ∧ 52 ≤ mj)) ∧ niN f n E (by2 f (cb + pc + 1)) = 0 then 1 else 0 from by
          first | ((repeat first | rw [if_pos (by omega)] | rw [if_neg (by omega)]) <;> first | rfl | omega) | ((repeat' split) <;> first | rfl | (exfalso; omega) | omega)), rfl⟩)
    · have c_613 : ¬ (¬ (nI (tg f E (by2 f (cb + pc + 1)))) = 11) := of_decide_eq_false c_613
      have n_613 : tg f E (by2 f (cb + pc + 1)) = 11 := (eq_nI (p := tg f E (by2 f (cb + pc + 1))) (n := 11) (Nat.lt_trans (tg_lt _ _ _) (by decide)) (by decide)).mp (Decidable.not_not.mp c_613)
      refine ps_st (S' := (617, [(4, .int (nI (tg f E (by2 f (cb + pc + 1))))), (3, .int (nI (by2 f (cb + pc + 1)))), (0, .ref m0), (1, .int (nI pc)), (2, .int 184)], [.ref m0], M)) rfl rfl rfl ?_
      refine pr_int (j := 53) (S' := (620, [(4, .int (nI (tg f E (by2 f (cb + pc + 1))))), (3, .int (nI (by2 f (cb + pc + 1)))), (0, .ref m0), (1, .int (nI pc)), (2, .int 184)], [.int (nI mj)], M)) rfl hR rfl hi53 rfl ?_
      refine ps_st (S' := (622, [(4, .int (nI (tg f E (by2 f (cb + pc + 1))))), (3, .int (nI (by2 f (cb + pc + 1)))), (0, .ref m0), (1, .int (nI pc)), (2, .int 184)], [.int 52, .int (nI mj)], M)) rfl rfl rfl ?_
      refine ps_if2 (S1 := (627, [(0, .ref m0), (1, .int (nI pc)), (2, .int 184), (3, .int (nI (by2 f (cb + pc + 1))))], [], M)) (S2 := (625, [], [], M)) rfl rfl rfl (fun c_622 => ?_) (fun c_622 => ?_)
      · have c_622 : 52 ≤ (nI mj) := of_decide_eq_true c_622
        have n_622 : 52 ≤ mj := (le_nI (p := 52) (n := mj) (by decide) (by omega)).mp c_622
        refine ps_st (S' := (628, [(0, .ref m0), (1, .int (nI pc)), (2, .int 184), (3, .int (nI (by2 f (cb + pc + 1))))], [.ref m0], M)) rfl rfl rfl ?_
        refine ps_st (S' := (629, [(0, .ref m0), (1, .int (nI pc)), (2, .int 184), (3, .int (nI (by2 f (cb + pc + 1))))], [.int (nI (by2 f (cb + pc + 1))), .ref m0], M)) rfl rfl rfl ?_
        refine pl_call (a := [.ref m0, .int (nI (by2 f (cb + pc + 1)))]) (rest := []) rfl rfl rfl (rd_nameOf (n := n) (f := f) (tx := tx) (cN := cN) (A := A) (N := N) (mj := mj) (E := E) (k := (by2 f (cb + pc + 1))) hR hi51 hi52 hi53 hF hY hP (hEP) (hN) (hmj) (by omega) ((hPF (by2 f (cb + pc + 1))).1 (by omega) |>.1) ((hPF (by2 f (cb + pc + 1))).1 (by omega) |>.2.1)) (fun v11 M12 q13 => ?_)
        obtain ⟨s14, q629_s, rfl, rfl⟩ := q13
        show pl _ _ _ (632, [(0, .ref m0), (1, .int (nI pc)), (2, .int 184), (3, .int (nI (by2 f (cb + pc + 1))))], [.int (nI s14)], M) _
        have hsl_629 := q629_s.1
        have htl_629 := hY.1.2.2.1
        have hni_629 : niN f n E (by2 f (cb + pc + 1)) = 0 ↔ _ := sy_ni hY q629_s hs9
        refine ps_st (S' := (633, [(0, .ref m0), (1, .int (nI pc)), (2, .int 184), (3, .int (nI (by2 f (cb + pc + 1))))], [.ref m0, .int (nI s14)], M)) rfl rfl rfl ?_
        refine pr_int (j := 9) (S' := (636, [(0, .ref m0), (1, .int (nI pc)), (2, .int 184), (3, .int (nI (by2 f (cb + pc + 1))))], [.int (nI s9), .int (nI s14)], M)) rfl hR rfl hi9 rfl ?_
        refine ps_if2 (S1 := (648, [(0, .ref m0), (1, .int (nI pc)), (2, .int 184), (3, .int (nI (by2 f (cb + pc + 1))))], [], M)) (S2 := (639, [(0, .ref m0), (1, .int (nI pc)), (2, .int 184), (3, .int (nI (by2 f (cb + pc + 1))))], [], M)) rfl rfl rfl (fun c_636 => ?_) (fun c_636 => ?_)
        · have c_636 : ¬ (nI s14) = (nI s9) := of_decide_eq_true c_636
          have n_636 : ¬ (s14 = s9) := fun h9 => c_636 ((eq_nI (p := s14) (n := s9) (by omega) (by omega)).mpr h9)
          refine ps_st (S' := (649, [(0, .ref m0), (1, .int (nI pc)), (2, .int 184), (3, .int (nI (by2 f (cb + pc + 1))))], [.int 184], M)) rfl rfl rfl ?_
          refine ps_st (S' := (652, [(0, .ref m0), (1, .int (nI pc)), (2, .int 184), (3, .int (nI (by2 f (cb + pc + 1))))], [.int 185, .int 184], M)) rfl rfl rfl ?_
          refine ps_if2 (S1 := (686, [], [], M)) (S2 := (655, [(0, .ref m0), (1, .int (nI pc)), (2, .int 184), (3, .int (nI (by2 f (cb + pc + 1))))], [], M)) rfl rfl rfl (fun c_652 => ?_) (fun c_652 => ?_)
          rotate_left
          · exact absurd (by decide) (of_decide_eq_false c_652)
          refine ps_st (S' := (687, [], [.int 1], M)) rfl rfl rfl ?_
          refine ps_st (S' := (691, [], [.int 1], M)) rfl rfl rfl ?_
          exact ps_ret rfl rfl (⟨congrArg (fun x => some (Value.int (nI x))) (show 1 = if (tg f E (by2 f (cb + pc + 1)) = 10 ∨ (tg f E (by2 f (cb + pc + 1)) = 11 ∧ 52 ≤ mj)) ∧ niN f n E (by2 f (cb + pc + 1)) = 0 then 1 else 0 from by
              first | ((repeat first | rw [if_pos (by omega)] | rw [if_neg (by omega)]) <;> first | rfl | omega) | ((repeat' split) <;> first | rfl | (exfalso; omega) | omega)), rfl⟩)
        · have c_636 : ¬ (¬ (nI s14) = (nI s9)) := of_decide_eq_false c_636
          have n_636 : s14 = s9 := (eq_nI (p := s14) (n := s9) (by omega) (by omega)).mp (Decidable.not_not.mp c_636)
          refine ps_st (S' := (640, [(0, .ref m0), (1, .int (nI pc)), (2, .int 184), (3, .int (nI (by2 f (cb + pc + 1))))], [.int 184], M)) rfl rfl rfl ?_
          refine ps_st (S' := (643, [(0, .ref m0), (1, .int (nI pc)), (2, .int 184), (3, .int (nI (by2 f (cb + pc + 1))))], [.int 183, .int 184], M)) rfl rfl rfl ?_
          refine ps_if2 (S1 := (648, [(0, .ref m0), (1, .int (nI pc)), (2, .int 184), (3, .int (nI (by2 f (cb + pc + 1))))], [], M)) (S2 := (646, [(0, .ref m0), (1, .int (nI pc)), (2, .int 184), (3, .int (nI (by2 f (cb + pc + 1))))], [], M)) rfl rfl rfl (fun c_643 => ?_) (fun c_643 => ?_)
          · exact absurd (of_decide_eq_true c_643) (by decide)
          refine ps_st (S' := (647, [(0, .ref m0), (1, .int (nI pc)), (2, .int 184), (3, .int (nI (by2 f (cb + pc + 1))))], [.int 0], M)) rfl rfl rfl ?_
          exact ps_ret rfl rfl (⟨congrArg (fun x => some (Value.int (nI x))) (show 0 = if (tg f E (by2 f (cb + pc + 1)) = 10 ∨ (tg f E (by2 f (cb + pc + 1)) = 11 ∧ 52 ≤ mj)) ∧ niN f n E (by2 f (cb + pc + 1)) = 0 then 1 else 0 from by
              first | ((repeat first | rw [if_pos (by omega)] | rw [if_neg (by omega)]) <;> first | rfl | omega) | ((repeat' split) <;> first | rfl | (exfalso; omega) | omega)), rfl⟩)
      · have c_622 : ¬ (52 ≤ (nI mj)) := of_decide_eq_false c_622
        have n_622 : ¬ (52 ≤ mj) := fun h9 => c_622 ((le_nI (p := 52) (n := mj) (by decide) (by omega)).mpr h9)
        refine ps_st (S' := (626, [], [.int 0], M)) rfl rfl rfl ?_
        exact ps_ret rfl rfl (⟨congrArg (fun x => some (Value.int (nI x))) (show 0 = if (tg f E (by2 f (cb + pc + 1)) = 10 ∨ (tg f E (by2 f (cb + pc + 1)) = 11 ∧ 52 ≤ mj)) ∧ niN f n E (by2 f (cb + pc + 1)) = 0 then 1 else 0 from by
            first | ((repeat first | rw [if_pos (by omega)] | rw [if_neg (by omega)]) <;> first | rfl | omega) | ((repeat' split) <;> first | rfl | (exfalso; omega) | omega)), rfl⟩)
set_option maxHeartbeats 1000000 in
theorem rd_op185 {g : xe_G} {m0 : Nat} {q : Nat → Nat} {z : Nat × Nat} {I : rI} {R : rR} {M : mi_H} {n : Nat} {f : Nat → Int32} {tx : List (List Nat)} {cN : Nat} {A : Nat → Nat} {N mj : Nat} {E : List (Nat × Nat)} {cb ml s9 pc : Nat} (hR : RS g m0 q z I R M) (hi51 : I 51 = some 0) (hi52 : I 52 = some (nI N)) (hi53 : I 53 = some (nI mj)) (hi77 : I 77 = some (nI cb)) (hi79 : I 79 = some (nI ml)) (hi9 : I 9 = some (nI s9)) (hF : FK n f I R) (hY : SYT tx cN A I R) (hP : RPV f n E tx N I R) (hEP : EP f n E) (hN : N < 65536) (hmj : mj < 65536) (hml : ml < 65536) (hs9 : s9 < tx.length ∧ tx.getD s9 [] = ltx 14) (hCP : CP f n E) (hPF : PF f n E) (hin : cb + pc + 5 ≤ n) : pt (mT g) 228 [.ref m0, .int (nI pc), .int 185] M (fun v M' => (v = some (.int (nI (if tg f E (by2 f (cb + pc + 1)) = 11 ∧ by1 f (cb + pc + 3) = argN (tX f n E (se f E (se f E (by2 f (cb + pc + 1))))) + 1 ∧ by1 f (cb + pc + 4) = 0 then 1 else 0))) ∧ M = M')) := by
  refine pt_in (b := mb_228 g) rfl (fun kf => ?_)
  show pl (mT g) kf (mb_228 g).2 (0, [(0, .ref m0), (1, .int (nI pc)), (2, .int 185)], [], M) _
  have hn := hF.1
  have htl := hY.1.2.2.1
  refine ps_st (S' := (1, [(0, .ref m0), (1, .int (nI pc)), (2, .int 185)], [.int 185], M)) rfl rfl rfl ?_
  refine ps_st (S' := (4, [(0, .ref m0), (1, .int (nI pc)), (2, .int 185)], [.int 168, .int 185], M)) rfl rfl rfl ?_
  refine ps_if2 (S1 := (21, [(0, .ref m0), (1, .int (nI pc)), (2, .int 185)], [], M)) (S2 := (7, [(0, .ref m0), (1, .int (nI pc)), (2, .int 185)], [], M)) rfl rfl rfl (fun c_4 => ?_) (fun c_4 => ?_)
  · exact absurd (of_decide_eq_true c_4) (by decide)
  refine ps_st (S' := (8, [(0, .ref m0), (1, .int (nI pc)), (2, .int 185)], [.int 185], M)) rfl rfl rfl ?_
  refine ps_st (S' := (11, [(0, .ref m0), (1, .int (nI pc)), (2, .int 185)], [.int 169, .int 185], M)) rfl rfl rfl ?_
  refine ps_if2 (S1 := (21, [(0, .ref m0), (1, .int (nI pc)), (2, .int 185)], [], M)) (S2 := (14, [(0, .ref m0), (1, .int (nI pc)), (2, .int 185)], [], M)) rfl rfl rfl (fun c_11 => ?_) (fun c_11 => ?_)
  · exact absurd (of_decide_eq_true c_11) (by decide)
  refine ps_st (S' := (15, [(0, .ref m0), (1, .int (nI pc)), (2, .int 185)], [.int 185], M)) rfl rfl rfl ?_
  refine ps_st (S' := (18, [(0, .ref m0), (1, .int (nI pc)), (2, .int 185)], [.int 201, .int 185], M)) rfl rfl rfl ?_
  refine ps_if2 (S1 := (58, [(0, .ref m0), (1, .int (nI pc)), (2, .int 185)], [], M)) (S2 := (21, [(0, .ref m0), (1, .int (nI pc)), (2, .int 185)], [], M)) rfl rfl rfl (fun c_18 => ?_) (fun c_18 => ?_)
  rotate_left
  · exact absurd (by decide) (of_decide_eq_false c_18)
  refine ps_st (S' := (59, [(0, .ref m0), (1, .int (nI pc)), (2, .int 185)], [.int 185], M)) rfl rfl rfl ?_
  refine ps_st (S' := (61, [(0, .ref m0), (1, .int (nI pc)), (2, .int 185)], [.int 21, .int 185], M)) rfl rfl rfl ?_
  refine ps_if2 (S1 := (70, [(0, .ref m0), (1, .int (nI pc)), (2, .int 185)], [], M)) (S2 := (64, [(0, .ref m0), (1, .int (nI pc)), (2, .int 185)], [], M)) rfl rfl rfl (fun c_61 => ?_) (fun c_61 => ?_)
  · exact absurd (of_decide_eq_true c_61) (by decide)
  refine ps_st (S' := (65, [(0, .ref m0), (1, .int (nI pc)), (2, .int 185)], [.int 185], M)) rfl rfl rfl ?_
  refine ps_st (S' := (67, [(0, .ref m0), (1, .int (nI pc)), (2, .int 185)], [.int 25, .int 185], M)) rfl rfl rfl ?_
  refine ps_if2 (S1 := (82, [(0, .ref m0), (1, .int (nI pc)), (2, .int 185)], [], M)) (S2 := (70, [(0, .ref m0), (1, .int (nI pc)), (2, .int 185)], [], M)) rfl rfl rfl (fun c_67 => ?_) (fun c_67 => ?_)
  · exact absurd (of_decide_eq_true c_67) (by decide)
  refine ps_st (S' := (71, [(0, .ref m0), (1, .int (nI pc)), (2, .int 185)], [.int 185], M)) rfl rfl rfl ?_
  refine ps_st (S' := (73, [(0, .ref m0), (1, .int (nI pc)), (2, .int 185)], [.int 54, .int 185], M)) rfl rfl rfl ?_
  refine ps_if2 (S1 := (127, [(0, .ref m0), (1, .int (nI pc)), (2, .int 185)], [], M)) (S2 := (76, [(0, .ref m0), (1, .int (nI pc)), (2, .int 185)], [], M)) rfl rfl rfl (fun c_73 => ?_) (fun c_73 => ?_)
  · exact absurd (of_decide_eq_true c_73) (by decide)
  refine ps_st (S' := (77, [(0, .ref m0), (1, .int (nI pc)), (2, .int 185)], [.int 185], M)) rfl rfl rfl ?_
  refine ps_st (S' := (79, [(0, .ref m0), (1, .int (nI pc)), (2, .int 185)], [.int 58, .int 185], M)) rfl rfl rfl ?_
  refine ps_if2 (S1 := (127, [(0, .ref m0), (1, .int (nI pc)), (2, .int 185)], [], M)) (S2 := (82, [(0, .ref m0), (1, .int (nI pc)), (2, .int 185)], [], M)) rfl rfl rfl (fun c_79 => ?_) (fun c_79 => ?_)
  rotate_left
  · exact absurd (by decide) (of_decide_eq_false c_79)
  refine ps_st (S' := (128, [(0, .ref m0), (1, .int (nI pc)), (2, .int 185)], [.int 185], M)) rfl rfl rfl ?_
  refine ps_st (S' := (130, [(0, .ref m0), (1, .int (nI pc)), (2, .int 185)], [.int 26, .int 185], M)) rfl rfl rfl ?_
  refine ps_if2 (S1 := (139, [(0, .ref m0), (1, .int (nI pc)), (2, .int 185)], [], M)) (S2 := (133, [(0, .ref m0), (1, .int (nI pc)), (2, .int 185)], [], M)) rfl rfl rfl (fun c_130 => ?_) (fun c_130 => ?_)
  · exact absurd (of_decide_eq_true c_130) (by decide)
  refine ps_st (S' := (134, [(0, .ref m0), (1, .int (nI pc)), (2, .int 185)], [.int 185], M)) rfl rfl rfl ?_
  refine ps_st (S' := (136, [(0, .ref m0), (1, .int (nI pc)), (2, .int 185)], [.int 45, .int 185], M)) rfl rfl rfl ?_
  refine ps_if2 (S1 := (151, [(0, .ref m0), (2, .int 185)], [], M)) (S2 := (139, [(0, .ref m0), (1, .int (nI pc)), (2, .int 185)], [], M)) rfl rfl rfl (fun c_136 => ?_) (fun c_136 => ?_)
  · exact absurd (of_decide_eq_true c_136) (by decide)
  refine ps_st (S' := (140, [(0, .ref m0), (1, .int (nI pc)), (2, .int 185)], [.int 185], M)) rfl rfl rfl ?_
  refine ps_st (S' := (142, [(0, .ref m0), (1, .int (nI pc)), (2, .int 185)], [.int 59, .int 185], M)) rfl rfl rfl ?_
  refine ps_if2 (S1 := (196, [(0, .ref m0), (1, .int (nI pc)), (2, .int 185)], [], M)) (S2 := (145, [(0, .ref m0), (1, .int (nI pc)), (2, .int 185)], [], M)) rfl rfl rfl (fun c_142 => ?_) (fun c_142 => ?_)
  · exact absurd (of_decide_eq_true c_142) (by decide)
  refine ps_st (S' := (146, [(0, .ref m0), (1, .int (nI pc)), (2, .int 185)], [.int 185], M)) rfl rfl rfl ?_
  refine ps_st (S' := (148, [(0, .ref m0), (1, .int (nI pc)), (2, .int 185)], [.int 78, .int 185], M)) rfl rfl rfl ?_
  refine ps_if2 (S1 := (196, [(0, .ref m0), (1, .int (nI pc)), (2, .int 185)], [], M)) (S2 := (151, [(0, .ref m0), (2, .int 185)], [], M)) rfl rfl rfl (fun c_148 => ?_) (fun c_148 => ?_)
  rotate_left
  · exact absurd (by decide) (of_decide_eq_false c_148)
  refine ps_st (S' := (197, [(0, .ref m0), (1, .int (nI pc)), (2, .int 185)], [.int 185], M)) rfl rfl rfl ?_
  refine ps_st (S' := (200, [(0, .ref m0), (1, .int (nI pc)), (2, .int 185)], [.int 132, .int 185], M)) rfl rfl rfl ?_
  refine ps_if2 (S1 := (216, [(0, .ref m0), (1, .int (nI pc)), (2, .int 185)], [], M)) (S2 := (203, [(0, .ref m0), (1, .int (nI pc)), (2, .int 185)], [], M)) rfl rfl rfl (fun c_200 => ?_) (fun c_200 => ?_)
  rotate_left
  · exact absurd (by decide) (of_decide_eq_false c_200)
  refine ps_st (S' := (217, [(0, .ref m0), (1, .int (nI pc)), (2, .int 185)], [.int 185], M)) rfl rfl rfl ?_
  refine ps_st (S' := (220, [(0, .ref m0), (1, .int (nI pc)), (2, .int 185)], [.int 196, .int 185], M)) rfl rfl rfl ?_
  refine ps_if2 (S1 := (296, [(0, .ref m0), (1, .int (nI pc)), (2, .int 185)], [], M)) (S2 := (223, [(0, .ref m0), (1, .int (nI pc)), (2, .int 185)], [], M)) rfl rfl rfl (fun c_220 => ?_) (fun c_220 => ?_)
  rotate_left
  · exact absurd (by decide) (of_decide_eq_false c_220)
  refine ps_st (S' := (297, [(0, .ref m0), (1, .int (nI pc)), (2, .int 185)], [.int 185], M)) rfl rfl rfl ?_
  refine ps_st (S' := (300, [(0, .ref m0), (1, .int (nI pc)), (2, .int 185)], [.int 188, .int 185], M)) rfl rfl rfl ?_
  refine ps_if2 (S1 := (332, [(0, .ref m0), (1, .int (nI pc)), (2, .int 185)], [], M)) (S2 := (303, [(0, .ref m0), (1, .int (nI pc)), (2, .int 185)], [], M)) rfl rfl rfl (fun c_300 => ?_) (fun c_300 => ?_)
  rotate_left
  · exact absurd (by decide) (of_decide_eq_false c_300)
  refine ps_st (S' := (333, [(0, .ref m0), (1, .int (nI pc)), (2, .int 185)], [.int 185], M)) rfl rfl rfl ?_
  refine ps_st (S' := (335, [(0, .ref m0), (1, .int (nI pc)), (2, .int 185)], [.int 18, .int 185], M)) rfl rfl rfl ?_
  refine ps_if2 (S1 := (513, [(0, .ref m0), (1, .int (nI pc)), (2, .int 185)], [], M)) (S2 := (338, [(0, .ref m0), (1, .int (nI pc)), (2, .int 185)], [], M)) rfl rfl rfl (fun c_335 => ?_) (fun c_335 => ?_)
  · exact absurd (of_decide_eq_true c_335) (by decide)
  refine ps_st (S' := (339, [(0, .ref m0), (1, .int (nI pc)), (2, .int 185)], [.int 185], M)) rfl rfl rfl ?_
  refine ps_st (S' := (341, [(0, .ref m0), (1, .int (nI pc)), (2, .int 185)], [.int 20, .int 185], M)) rfl rfl rfl ?_
  refine ps_if2 (S1 := (513, [(0, .ref m0), (1, .int (nI pc)), (2, .int 185)], [], M)) (S2 := (344, [(0, .ref m0), (1, .int (nI pc)), (2, .int 185)], [], M)) rfl rfl rfl (fun c_341 => ?_) (fun c_341 => ?_)
  rotate_left
  · exact absurd (by decide) (of_decide_eq_false c_341)
  refine ps_st (S' := (514, [(0, .ref m0), (1, .int (nI pc)), (2, .int 185)], [.int 185], M)) rfl rfl rfl ?_
  refine ps_st (S' := (517, [(0, .ref m0), (1, .int (nI pc)), (2, .int 185)], [.int 178, .int 185], M)) rfl rfl rfl ?_
  refine ps_if2 (S1 := (549, [(0, .ref m0), (1, .int (nI pc)), (2, .int 185)], [], M)) (S2 := (520, [(0, .ref m0), (1, .int (nI pc)), (2, .int 185)], [], M)) rfl rfl rfl (fun c_517 => ?_) (fun c_517 => ?_)
  · exact absurd (of_decide_eq_true c_517) (by decide)
  refine ps_st (S' := (521, [(0, .ref m0), (1, .int (nI pc)), (2, .int 185)], [.int 185], M)) rfl rfl rfl ?_
  refine ps_st (S' := (524, [(0, .ref m0), (1, .int (nI pc)), (2, .int 185)], [.int 181, .int 185], M)) rfl rfl rfl ?_
  refine ps_if2 (S1 := (549, [(0, .ref m0), (1, .int (nI pc)), (2, .int 185)], [], M)) (S2 := (527, [(0, .ref m0), (1, .int (nI pc)), (2, .int 185)], [], M)) rfl rfl rfl (fun c_524 => ?_) (fun c_524 => ?_)
  rotate_left
  · exact absurd (by decide) (of_decide_eq_false c_524)
  refine ps_st (S' := (550, [(0, .ref m0), (1, .int (nI pc)), (2, .int 185)], [.int 185], M)) rfl rfl rfl ?_
  refine ps_st (S' := (553, [(0, .ref m0), (1, .int (nI pc)), (2, .int 185)], [.int 182, .int 185], M)) rfl rfl rfl ?_
  refine ps_if2 (S1 := (692, [(0, .ref m0), (1, .int (nI pc)), (2, .int 185)], [], M)) (S2 := (556, [(0, .ref m0), (1, .int (nI pc)), (2, .int 185)], [], M)) rfl rfl rfl (fun c_553 => ?_) (fun c_553 => ?_)
  · exact absurd (of_decide_eq_true c_553) (by decide)
  refine ps_st (S' := (557, [(0, .ref m0), (1, .int (nI pc)), (2, .int 185)], [.int 185], M)) rfl rfl rfl ?_
  refine ps_st (S' := (560, [(0, .ref m0), (1, .int (nI pc)), (2, .int 185)], [.int 185, .int 185], M)) rfl rfl rfl ?_
  refine ps_if2 (S1 := (692, [(0, .ref m0), (1, .int (nI pc)), (2, .int 185)], [], M)) (S2 := (563, [(0, .ref m0), (1, .int (nI pc)), (2, .int 185)], [], M)) rfl rfl rfl (fun c_560 => ?_) (fun c_560 => ?_)
  · exact absurd (of_decide_eq_true c_560) (by decide)
  refine ps_st (S' := (564, [(0, .ref m0), (1, .int (nI pc)), (2, .int 185)], [.ref m0], M)) rfl rfl rfl ?_
  refine ps_st (S' := (565, [(0, .ref m0), (1, .int (nI pc)), (2, .int 185)], [.int (nI pc), .ref m0], M)) rfl rfl rfl ?_
  refine ps_st (S' := (566, [(0, .ref m0), (1, .int (nI pc)), (2, .int 185)], [.int 1, .int (nI pc), .ref m0], M)) rfl rfl rfl ?_
  refine ps_st (S' := (567, [(0, .ref m0), (1, .int (nI pc)), (2, .int 185)], [.int ((nI pc) + 1), .ref m0], M)) rfl rfl rfl ?_
  rw [nI_add1 (p := pc) (k := 1) (x := 1) rfl (by omega)]
  show pl _ _ _ (_, [(0, .ref m0), (1, .int (nI pc)), (2, .int 185)], [.int (nI (pc + 1)), .ref m0], M) _
  refine pl_call (a := [.ref m0, .int (nI (pc + 1))]) (rest := []) rfl rfl rfl (rd_b2 (n := n) (f := f) (cb := cb) (p := (pc + 1)) hR hi77 hF (by omega)) (fun v1 M2 q3 => ?_)
  obtain ⟨rfl, rfl⟩ := q3
  show pl _ _ _ (570, [(0, .ref m0), (1, .int (nI pc)), (2, .int 185)], [.int (nI (by2 f (cb + (pc + 1))))], M) _
  show pl _ _ _ (_, [(0, .ref m0), (1, .int (nI pc)), (2, .int 185)], [.int (nI (by2 f (cb + pc + 1)))], M) _
  have hb_567 := by2_lt f (cb + pc + 1)
  refine ps_st (S' := (571, [(3, .int (nI (by2 f (cb + pc + 1)))), (0, .ref m0), (1, .int (nI pc)), (2, .int 185)], [], M)) rfl rfl rfl ?_
  refine ps_st (S' := (572, [(3, .int (nI (by2 f (cb + pc + 1)))), (0, .ref m0), (1, .int (nI pc)), (2, .int 185)], [.ref m0], M)) rfl rfl rfl ?_
  refine ps_st (S' := (573, [(3, .int (nI (by2 f (cb + pc + 1)))), (0, .ref m0), (1, .int (nI pc)), (2, .int 185)], [.int (nI (by2 f (cb + pc + 1))), .ref m0], M)) rfl rfl rfl ?_
  refine pl_call (a := [.ref m0, .int (nI (by2 f (cb + pc + 1)))]) (rest := []) rfl rfl rfl (rd_tag (n := n) (f := f) (tx := tx) (cN := cN) (A := A) (N := N) (mj := mj) (E := E) (k := (by2 f (cb + pc + 1))) hR hi51 hi52 hi53 hF hY hP (hEP) (hN) (hmj) (by2_lt _ _)) (fun v4 M5 q6 => ?_)
  obtain ⟨rfl, rfl⟩ := q6
  show pl _ _ _ (576, [(3, .int (nI (by2 f (cb + pc + 1)))), (0, .ref m0), (1, .int (nI pc)), (2, .int 185)], [.int (nI (tg f E (by2 f (cb + pc + 1))))], M) _
  have htg_573 := tg_lt f E (by2 f (cb + pc + 1))
  refine ps_st (S' := (578, [(4, .int (nI (tg f E (by2 f (cb + pc + 1))))), (3, .int (nI (by2 f (cb + pc + 1)))), (0, .ref m0), (1, .int (nI pc)), (2, .int 185)], [], M)) rfl rfl rfl ?_
  refine ps_st (S' := (579, [(4, .int (nI (tg f E (by2 f (cb + pc + 1))))), (3, .int (nI (by2 f (cb + pc + 1)))), (0, .ref m0), (1, .int (nI pc)), (2, .int 185)], [.int 185], M)) rfl rfl rfl ?_
  refine ps_st (S' := (582, [(4, .int (nI (tg f E (by2 f (cb + pc + 1))))), (3, .int (nI (by2 f (cb + pc + 1)))), (0, .ref m0), (1, .int (nI pc)), (2, .int 185)], [.int 185, .int 185], M)) rfl rfl rfl ?_
  refine ps_if2 (S1 := (595, [(4, .int (nI (tg f E (by2 f (cb + pc + 1))))), (3, .int (nI (by2 f (cb + pc + 1)))), (0, .ref m0), (1, .int (nI pc)), (2, .int 185)], [], M)) (S2 := (585, [(4, .int (nI (tg f E (by2 f (cb + pc + 1))))), (3, .int (nI (by2 f (cb + pc + 1)))), (0, .ref m0), (1, .int (nI pc)), (2, .int 185)], [], M)) rfl rfl rfl (fun c_582 => ?_) (fun c_582 => ?_)
  · exact absurd (of_decide_eq_true c_582) (by decide)
  refine ps_st (S' := (587, [(4, .int (nI (tg f E (by2 f (cb + pc + 1))))), (3, .int (nI (by2 f (cb + pc + 1)))), (0, .ref m0), (1, .int (nI pc)), (2, .int 185)], [.int (nI (tg f E (by2 f (cb + pc + 1))))], M)) rfl rfl rfl ?_
  refine ps_st (S' := (589, [(4, .int (nI (tg f E (by2 f (cb + pc + 1))))), (3, .int (nI (by2 f (cb + pc + 1)))), (0, .ref m0), (1, .int (nI pc)), (2, .int 185)], [.int 11, .int (nI (tg f E (by2 f (cb + pc + 1))))], M)) rfl rfl rfl ?_
  refine ps_if2 (S1 := (625, [], [], M)) (S2 := (592, [(4, .int (nI (tg f E (by2 f (cb + pc + 1))))), (3, .int (nI (by2 f (cb + pc + 1)))), (0, .ref m0), (1, .int (nI pc)), (2, .int 185)], [], M)) rfl rfl rfl (fun c_589 => ?_) (fun c_589 => ?_)
  · have c_589 : ¬ (nI (tg f E (by2 f (cb + pc + 1)))) = 11 := of_decide_eq_true c_589
    have n_589 : ¬ (tg f E (by2 f (cb + pc + 1)) = 11) := fun h9 => c_589 ((eq_nI (p := tg f E (by2 f (cb + pc + 1))) (n := 11) (Nat.lt_trans (tg_lt _ _ _) (by decide)) (by decide)).mpr h9)
    refine ps_st (S' := (626, [], [.int 0], M)) rfl rfl rfl ?_
    exact ps_ret rfl rfl (⟨congrArg (fun x => some (Value.int (nI x))) (show 0 = if tg f E (by2 f (cb + pc + 1)) = 11 ∧ by1 f (cb + pc + 3) = argN (tX f n E (se f E (se f E (by2 f (cb + pc + 1))))) + 1 ∧ by1 f (cb + pc + 4) = 0 then 1 else 0 from by
        first | ((repeat first | rw [if_pos (by omega)] | rw [if_neg (by omega)]) <;> first | rfl | omega) | ((repeat' split) <;> first | rfl | (exfalso; omega) | omega)), rfl⟩)
  · have c_589 : ¬ (¬ (nI (tg f E (by2 f (cb + pc + 1)))) = 11) := of_decide_eq_false c_589
    have n_589 : tg f E (by2 f (cb + pc + 1)) = 11 := (eq_nI (p := tg f E (by2 f (cb + pc + 1))) (n := 11) (Nat.lt_trans (tg_lt _ _ _) (by decide)) (by decide)).mp (Decidable.not_not.mp c_589)
    refine ps_st (S' := (627, [(0, .ref m0), (1, .int (nI pc)), (2, .int 185), (3, .int (nI (by2 f (cb + pc + 1))))], [], M)) rfl rfl rfl ?_
    refine ps_st (S' := (628, [(0, .ref m0), (1, .int (nI pc)), (2, .int 185), (3, .int (nI (by2 f (cb + pc + 1))))], [.ref m0], M)) rfl rfl rfl ?_
    refine ps_st (S' := (629, [(0, .ref m0), (1, .int (nI pc)), (2, .int 185), (3, .int (nI (by2 f (cb + pc + 1))))], [.int (nI (by2 f (cb + pc + 1))), .ref m0], M)) rfl rfl rfl ?_
    refine pl_call (a := [.ref m0, .int (nI (by2 f (cb + pc + 1)))]) (rest := []) rfl rfl rfl (rd_nameOf (n := n) (f := f) (tx := tx) (cN := cN) (A := A) (N := N) (mj := mj) (E := E) (k := (by2 f (cb + pc + 1))) hR hi51 hi52 hi53 hF hY hP (hEP) (hN) (hmj) (by omega) ((hPF (by2 f (cb + pc + 1))).1 (by omega) |>.1) ((hPF (by2 f (cb + pc + 1))).1 (by omega) |>.2.1)) (fun v7 M8 q9 => ?_)
    obtain ⟨s10, q629_s, rfl, rfl⟩ := q9
    show pl _ _ _ (632, [(0, .ref m0), (1, .int (nI pc)), (2, .int 185), (3, .int (nI (by2 f (cb + pc + 1))))], [.int (nI s10)], M) _
    have hsl_629 := q629_s.1
    have htl_629 := hY.1.2.2.1
    have hni_629 : niN f n E (by2 f (cb + pc + 1)) = 0 ↔ _ := sy_ni hY q629_s hs9
    refine ps_st (S' := (633, [(0, .ref m0), (1, .int (nI pc)), (2, .int 185), (3, .int (nI (by2 f (cb + pc + 1))))], [.ref m0, .int (nI s10)], M)) rfl rfl rfl ?_
    refine pr_int (j := 9) (S' := (636, [(0, .ref m0), (1, .int (nI pc)), (2, .int 185), (3, .int (nI (by2 f (cb + pc + 1))))], [.int (nI s9), .int (nI s10)], M)) rfl hR rfl hi9 rfl ?_
    refine ps_if2 (S1 := (648, [(0, .ref m0), (1, .int (nI pc)), (2, .int 185), (3, .int (nI (by2 f (cb + pc + 1))))], [], M)) (S2 := (639, [(0, .ref m0), (1, .int (nI pc)), (2, .int 185), (3, .int (nI (by2 f (cb + pc + 1))))], [], M)) rfl rfl rfl (fun c_636 => ?_) (fun c_636 => ?_)
    · have c_636 : ¬ (nI s10) = (nI s9) := of_decide_eq_true c_636
      have n_636 : ¬ (s10 = s9) := fun h9 => c_636 ((eq_nI (p := s10) (n := s9) (by omega) (by omega)).mpr h9)
      refine ps_st (S' := (649, [(0, .ref m0), (1, .int (nI pc)), (2, .int 185), (3, .int (nI (by2 f (cb + pc + 1))))], [.int 185], M)) rfl rfl rfl ?_
      refine ps_st (S' := (652, [(0, .ref m0), (1, .int (nI pc)), (2, .int 185), (3, .int (nI (by2 f (cb + pc + 1))))], [.int 185, .int 185], M)) rfl rfl rfl ?_
      refine ps_if2 (S1 := (686, [], [], M)) (S2 := (655, [(0, .ref m0), (1, .int (nI pc)), (2, .int 185), (3, .int (nI (by2 f (cb + pc + 1))))], [], M)) rfl rfl rfl (fun c_652 => ?_) (fun c_652 => ?_)
      · exact absurd (of_decide_eq_true c_652) (by decide)
      refine ps_st (S' := (656, [(0, .ref m0), (1, .int (nI pc)), (2, .int 185), (3, .int (nI (by2 f (cb + pc + 1))))], [.ref m0], M)) rfl rfl rfl ?_
      refine ps_st (S' := (657, [(0, .ref m0), (1, .int (nI pc)), (2, .int 185), (3, .int (nI (by2 f (cb + pc + 1))))], [.int (nI pc), .ref m0], M)) rfl rfl rfl ?_
      refine ps_st (S' := (658, [(0, .ref m0), (1, .int (nI pc)), (2, .int 185), (3, .int (nI (by2 f (cb + pc + 1))))], [.int 3, .int (nI pc), .ref m0], M)) rfl rfl rfl ?_
      refine ps_st (S' := (659, [(0, .ref m0), (1, .int (nI pc)), (2, .int 185), (3, .int (nI (by2 f (cb + pc + 1))))], [.int ((nI pc) + 3), .ref m0], M)) rfl rfl rfl ?_
      rw [nI_add1 (p := pc) (k := 3) (x := 3) rfl (by omega)]
      show pl _ _ _ (_, [(0, .ref m0), (1, .int (nI pc)), (2, .int 185), (3, .int (nI (by2 f (cb + pc + 1))))], [.int (nI (pc + 3)), .ref m0], M) _
      refine pl_call (a := [.ref m0, .int (nI (pc + 3))]) (rest := []) rfl rfl rfl (rd_b1 (n := n) (f := f) (cb := cb) (p := (pc + 3)) hR hi77 hF (by omega)) (fun v11 M12 q13 => ?_)
      obtain ⟨rfl, rfl⟩ := q13
      show pl _ _ _ (662, [(0, .ref m0), (1, .int (nI pc)), (2, .int 185), (3, .int (nI (by2 f (cb + pc + 1))))], [.int (nI (by1 f (cb + (pc + 3))))], M) _
      show pl _ _ _ (_, [(0, .ref m0), (1, .int (nI pc)), (2, .int 185), (3, .int (nI (by2 f (cb + pc + 1))))], [.int (nI (by1 f (cb + pc + 3)))], M) _
      have hb_659 := by1_lt f (cb + pc + 3)
      refine ps_st (S' := (663, [(0, .ref m0), (1, .int (nI pc)), (2, .int 185), (3, .int (nI (by2 f (cb + pc + 1))))], [.ref m0, .int (nI (by1 f (cb + pc + 3)))], M)) rfl rfl rfl ?_
      refine ps_st (S' := (664, [(0, .ref m0), (1, .int (nI pc)), (2, .int 185), (3, .int (nI (by2 f (cb + pc + 1))))], [.ref m0, .ref m0, .int (nI (by1 f (cb + pc + 3)))], M)) rfl rfl rfl ?_
      refine ps_st (S' := (665, [(0, .ref m0), (1, .int (nI pc)), (2, .int 185), (3, .int (nI (by2 f (cb + pc + 1))))], [.int (nI (by2 f (cb + pc + 1))), .ref m0, .ref m0, .int (nI (by1 f (cb + pc + 3)))], M)) rfl rfl rfl ?_
      refine pl_call (a := [.ref m0, .int (nI (by2 f (cb + pc + 1)))]) (rest := [.ref m0, .int (nI (by1 f (cb + pc + 3)))]) rfl rfl rfl (rd_descOf (n := n) (f := f) (tx := tx) (cN := cN) (A := A) (N := N) (mj := mj) (E := E) (k := (by2 f (cb + pc + 1))) hR hi51 hi52 hi53 hF hY hP (hEP) (hN) (hmj) (by omega) ((hPF (by2 f (cb + pc + 1))).1 (by omega) |>.1) ((hPF (by2 f (cb + pc + 1))).1 (by omega) |>.2.2)) (fun v14 M15 q16 => ?_)
      obtain ⟨s17, q665_s, rfl, rfl⟩ := q16
      show pl _ _ _ (668, [(0, .ref m0), (1, .int (nI pc)), (2, .int 185), (3, .int (nI (by2 f (cb + pc + 1))))], [.int (nI s17), .ref m0, .int (nI (by1 f (cb + pc + 3)))], M) _
      have hsl_665 := q665_s.1
      have htl_665 := hY.1.2.2.1
      have hmt_668 := (hPF (by2 f (cb + pc + 1))).2.2.1 (by omega)
      obtain ⟨-, -, k_668, W_668, hq1_668, hq2_668, hq3_668, hq4_668, hq5_668, hq6_668, -⟩ := mth_in (l := (tX f n E (se f E (se f E (by2 f (cb + pc + 1)))))) (by omega)
      refine pl_call (a := [.ref m0, .int (nI s17)]) (rest := [.int (nI (by1 f (cb + pc + 3)))]) rfl rfl rfl (rd_places0 (tx := tx) (cN := cN) (A := A) (s := s17) (l := (tX f n E (se f E (se f E (by2 f (cb + pc + 1)))))) (k0 := k_668) (W := W_668) hR hY (q665_s) (hq1_668) (⟨by omega, hq5_668⟩)) (fun v18 M19 q20 => ?_)
      obtain ⟨rfl, rfl⟩ := q20
      show pl _ _ _ (671, [(0, .ref m0), (1, .int (nI pc)), (2, .int 185), (3, .int (nI (by2 f (cb + pc + 1))))], [.int (nI (W_668)), .int (nI (by1 f (cb + pc + 3)))], M) _
      rw [← hq6_668]
      show pl _ _ _ (_, [(0, .ref m0), (1, .int (nI pc)), (2, .int 185), (3, .int (nI (by2 f (cb + pc + 1))))], [.int (nI (argN (tX f n E (se f E (se f E (by2 f (cb + pc + 1))))))), .int (nI (by1 f (cb + pc + 3)))], M) _
      have hal_668 := argN_lt (tX f n E (se f E (se f E (by2 f (cb + pc + 1)))))
      refine ps_st (S' := (672, [(0, .ref m0), (1, .int (nI pc)), (2, .int 185), (3, .int (nI (by2 f (cb + pc + 1))))], [.int 1, .int (nI (argN (tX f n E (se f E (se f E (by2 f (cb + pc + 1))))))), .int (nI (by1 f (cb + pc + 3)))], M)) rfl rfl rfl ?_
      refine ps_st (S' := (673, [(0, .ref m0), (1, .int (nI pc)), (2, .int 185), (3, .int (nI (by2 f (cb + pc + 1))))], [.int ((nI (argN (tX f n E (se f E (se f E (by2 f (cb + pc + 1))))))) + 1), .int (nI (by1 f (cb + pc + 3)))], M)) rfl rfl rfl ?_
      rw [nI_add1 (p := argN (tX f n E (se f E (se f E (by2 f (cb + pc + 1)))))) (k := 1) (x := 1) rfl (by omega)]
      show pl _ _ _ (_, [(0, .ref m0), (1, .int (nI pc)), (2, .int 185), (3, .int (nI (by2 f (cb + pc + 1))))], [.int (nI (argN (tX f n E (se f E (se f E (by2 f (cb + pc + 1))))) + 1)), .int (nI (by1 f (cb + pc + 3)))], M) _
      refine ps_if2 (S1 := (690, [], [], M)) (S2 := (676, [(0, .ref m0), (1, .int (nI pc)), (2, .int 185), (3, .int (nI (by2 f (cb + pc + 1))))], [], M)) rfl rfl rfl (fun c_673 => ?_) (fun c_673 => ?_)
      · have c_673 : ¬ (nI (by1 f (cb + pc + 3))) = (nI (argN (tX f n E (se f E (se f E (by2 f (cb + pc + 1))))) + 1)) := of_decide_eq_true c_673
        have n_673 : ¬ (by1 f (cb + pc + 3) = argN (tX f n E (se f E (se f E (by2 f (cb + pc + 1))))) + 1) := fun h9 => c_673 ((eq_nI (p := by1 f (cb + pc + 3)) (n := argN (tX f n E (se f E (se f E (by2 f (cb + pc + 1))))) + 1) (Nat.lt_trans (by1_lt _ _) (by decide)) (by omega)).mpr h9)
        refine ps_st (S' := (691, [], [.int 0], M)) rfl rfl rfl ?_
        exact ps_ret rfl rfl (⟨congrArg (fun x => some (Value.int (nI x))) (show 0 = if tg f E (by2 f (cb + pc + 1)) = 11 ∧ by1 f (cb + pc + 3) = argN (tX f n E (se f E (se f E (by2 f (cb + pc + 1))))) + 1 ∧ by1 f (cb + pc + 4) = 0 then 1 else 0 from by
            first | ((repeat first | rw [if_pos (by omega)] | rw [if_neg (by omega)]) <;> first | rfl | omega) | ((repeat' split) <;> first | rfl | (exfalso; omega) | omega)), rfl⟩)
      · have c_673 : ¬ (¬ (nI (by1 f (cb + pc + 3))) = (nI (argN (tX f n E (se f E (se f E (by2 f (cb + pc + 1))))) + 1))) := of_decide_eq_false c_673
        have n_673 : by1 f (cb + pc + 3) = argN (tX f n E (se f E (se f E (by2 f (cb + pc + 1))))) + 1 := (eq_nI (p := by1 f (cb + pc + 3)) (n := argN (tX f n E (se f E (se f E (by2 f (cb + pc + 1))))) + 1) (Nat.lt_trans (by1_lt _ _) (by decide)) (by omega)).mp (Decidable.not_not.mp c_673)
        refine ps_st (S' := (677, [(0, .ref m0), (1, .int (nI pc)), (2, .int 185), (3, .int (nI (by2 f (cb + pc + 1))))], [.ref m0], M)) rfl rfl rfl ?_
        refine ps_st (S' := (678, [(0, .ref m0), (1, .int (nI pc)), (2, .int 185), (3, .int (nI (by2 f (cb + pc + 1))))], [.int (nI pc), .ref m0], M)) rfl rfl rfl ?_
        refine ps_st (S' := (679, [(0, .ref m0), (1, .int (nI pc)), (2, .int 185), (3, .int (nI (by2 f (cb + pc + 1))))], [.int 4, .int (nI pc), .ref m0], M)) rfl rfl rfl ?_
        refine ps_st (S' := (680, [(0, .ref m0), (1, .int (nI pc)), (2, .int 185), (3, .int (nI (by2 f (cb + pc + 1))))], [.int ((nI pc) + 4), .ref m0], M)) rfl rfl rfl ?_
        rw [nI_add1 (p := pc) (k := 4) (x := 4) rfl (by omega)]
        show pl _ _ _ (_, [(0, .ref m0), (1, .int (nI pc)), (2, .int 185), (3, .int (nI (by2 f (cb + pc + 1))))], [.int (nI (pc + 4)), .ref m0], M) _
        refine pl_call (a := [.ref m0, .int (nI (pc + 4))]) (rest := []) rfl rfl rfl (rd_b1 (n := n) (f := f) (cb := cb) (p := (pc + 4)) hR hi77 hF (by omega)) (fun v21 M22 q23 => ?_)
        obtain ⟨rfl, rfl⟩ := q23
        show pl _ _ _ (683, [(0, .ref m0), (1, .int (nI pc)), (2, .int 185), (3, .int (nI (by2 f (cb + pc + 1))))], [.int (nI (by1 f (cb + (pc + 4))))], M) _
        show pl _ _ _ (_, [(0, .ref m0), (1, .int (nI pc)), (2, .int 185), (3, .int (nI (by2 f (cb + pc + 1))))], [.int (nI (by1 f (cb + pc + 4)))], M) _
        have hb_680 := by1_lt f (cb + pc + 4)
        refine ps_if (S1 := (690, [], [], M)) (S2 := (686, [], [], M)) rfl rfl rfl (fun c_683 => ?_) (fun c_683 => ?_)
        · have c_683 : ¬ (nI (by1 f (cb + pc + 4))) = 0 := of_decide_eq_true c_683
          have n_683 : ¬ (by1 f (cb + pc + 4) = 0) := fun h9 => c_683 ((eq_nI (p := by1 f (cb + pc + 4)) (n := 0) (Nat.lt_trans (by1_lt _ _) (by decide)) (by decide)).mpr h9)
          refine ps_st (S' := (691, [], [.int 0], M)) rfl rfl rfl ?_
          exact ps_ret rfl rfl (⟨congrArg (fun x => some (Value.int (nI x))) (show 0 = if tg f E (by2 f (cb + pc + 1)) = 11 ∧ by1 f (cb + pc + 3) = argN (tX f n E (se f E (se f E (by2 f (cb + pc + 1))))) + 1 ∧ by1 f (cb + pc + 4) = 0 then 1 else 0 from by
              first | ((repeat first | rw [if_pos (by omega)] | rw [if_neg (by omega)]) <;> first | rfl | omega) | ((repeat' split) <;> first | rfl | (exfalso; omega) | omega)), rfl⟩)
        · have c_683 : ¬ (¬ (nI (by1 f (cb + pc + 4))) = 0) := of_decide_eq_false c_683
          have n_683 : by1 f (cb + pc + 4) = 0 := (eq_nI (p := by1 f (cb + pc + 4)) (n := 0) (Nat.lt_trans (by1_lt _ _) (by decide)) (by decide)).mp (Decidable.not_not.mp c_683)
          refine ps_st (S' := (687, [], [.int 1], M)) rfl rfl rfl ?_
          refine ps_st (S' := (691, [], [.int 1], M)) rfl rfl rfl ?_
          exact ps_ret rfl rfl (⟨congrArg (fun x => some (Value.int (nI x))) (show 1 = if tg f E (by2 f (cb + pc + 1)) = 11 ∧ by1 f (cb + pc + 3) = argN (tX f n E (se f E (se f E (by2 f (cb + pc + 1))))) + 1 ∧ by1 f (cb + pc + 4) = 0 then 1 else 0 from by
              first | ((repeat first | rw [if_pos (by omega)] | rw [if_neg (by omega)]) <;> first | rfl | omega) | ((repeat' split) <;> first | rfl | (exfalso; omega) | omega)), rfl⟩)
    · have c_636 : ¬ (¬ (nI s10) = (nI s9)) := of_decide_eq_false c_636
      have n_636 : s10 = s9 := (eq_nI (p := s10) (n := s9) (by omega) (by omega)).mp (Decidable.not_not.mp c_636)
      refine ps_st (S' := (640, [(0, .ref m0), (1, .int (nI pc)), (2, .int 185), (3, .int (nI (by2 f (cb + pc + 1))))], [.int 185], M)) rfl rfl rfl ?_
      refine ps_st (S' := (643, [(0, .ref m0), (1, .int (nI pc)), (2, .int 185), (3, .int (nI (by2 f (cb + pc + 1))))], [.int 183, .int 185], M)) rfl rfl rfl ?_
      refine ps_if2 (S1 := (648, [(0, .ref m0), (1, .int (nI pc)), (2, .int 185), (3, .int (nI (by2 f (cb + pc + 1))))], [], M)) (S2 := (646, [(0, .ref m0), (1, .int (nI pc)), (2, .int 185), (3, .int (nI (by2 f (cb + pc + 1))))], [], M)) rfl rfl rfl (fun c_643 => ?_) (fun c_643 => ?_)
      · exact absurd (of_decide_eq_true c_643) (by decide)
      have hno := (hPF (by2 f (cb + pc + 1))).2.2.2 (by omega)
      refine ps_st (S' := (647, [(0, .ref m0), (1, .int (nI pc)), (2, .int 185), (3, .int (nI (by2 f (cb + pc + 1))))], [.int 0], M)) rfl rfl rfl ?_
      exact ps_ret rfl rfl (⟨congrArg (fun x => some (Value.int (nI x))) (show 0 = if tg f E (by2 f (cb + pc + 1)) = 11 ∧ by1 f (cb + pc + 3) = argN (tX f n E (se f E (se f E (by2 f (cb + pc + 1))))) + 1 ∧ by1 f (cb + pc + 4) = 0 then 1 else 0 from by
          first | ((repeat first | rw [if_pos (by omega)] | rw [if_neg (by omega)]) <;> first | rfl | omega) | ((repeat' split) <;> first | rfl | (exfalso; omega) | omega)), rfl⟩)
set_option maxHeartbeats 1000000 in
theorem rd_op186 {g : xe_G} {m0 : Nat} {q : Nat → Nat} {z : Nat × Nat} {I : rI} {R : rR} {M : mi_H} {n : Nat} {f : Nat → Int32} {tx : List (List Nat)} {cN : Nat} {A : Nat → Nat} {N mj : Nat} {E : List (Nat × Nat)} {cb ml s9 pc : Nat} (hR : RS g m0 q z I R M) (hi51 : I 51 = some 0) (hi52 : I 52 = some (nI N)) (hi53 : I 53 = some (nI mj)) (hi77 : I 77 = some (nI cb)) (hi79 : I 79 = some (nI ml)) (hi9 : I 9 = some (nI s9)) (hF : FK n f I R) (hY : SYT tx cN A I R) (hP : RPV f n E tx N I R) (hEP : EP f n E) (hN : N < 65536) (hmj : mj < 65536) (hml : ml < 65536) (hs9 : s9 < tx.length ∧ tx.getD s9 [] = ltx 14) (hCP : CP f n E) (hPF : PF f n E) (hin : cb + pc + 5 ≤ n) : pt (mT g) 228 [.ref m0, .int (nI pc), .int 186] M (fun v M' => (v = some (.int (nI (if tg f E (by2 f (cb + pc + 1)) = 18 ∧ by1 f (cb + pc + 3) = 0 ∧ by1 f (cb + pc + 4) = 0 then 1 else 0))) ∧ M = M')) := by
  refine pt_in (b := mb_228 g) rfl (fun kf => ?_)
  show pl (mT g) kf (mb_228 g).2 (0, [(0, .ref m0), (1, .int (nI pc)), (2, .int 186)], [], M) _
  have hn := hF.1
  have htl := hY.1.2.2.1
  refine ps_st (S' := (1, [(0, .ref m0), (1, .int (nI pc)), (2, .int 186)], [.int 186], M)) rfl rfl rfl ?_
  refine ps_st (S' := (4, [(0, .ref m0), (1, .int (nI pc)), (2, .int 186)], [.int 168, .int 186], M)) rfl rfl rfl ?_
  refine ps_if2 (S1 := (21, [(0, .ref m0), (1, .int (nI pc)), (2, .int 186)], [], M)) (S2 := (7, [(0, .ref m0), (1, .int (nI pc)), (2, .int 186)], [], M)) rfl rfl rfl (fun c_4 => ?_) (fun c_4 => ?_)
  · exact absurd (of_decide_eq_true c_4) (by decide)
  refine ps_st (S' := (8, [(0, .ref m0), (1, .int (nI pc)), (2, .int 186)], [.int 186], M)) rfl rfl rfl ?_
  refine ps_st (S' := (11, [(0, .ref m0), (1, .int (nI pc)), (2, .int 186)], [.int 169, .int 186], M)) rfl rfl rfl ?_
  refine ps_if2 (S1 := (21, [(0, .ref m0), (1, .int (nI pc)), (2, .int 186)], [], M)) (S2 := (14, [(0, .ref m0), (1, .int (nI pc)), (2, .int 186)], [], M)) rfl rfl rfl (fun c_11 => ?_) (fun c_11 => ?_)
  · exact absurd (of_decide_eq_true c_11) (by decide)
  refine ps_st (S' := (15, [(0, .ref m0), (1, .int (nI pc)), (2, .int 186)], [.int 186], M)) rfl rfl rfl ?_
  refine ps_st (S' := (18, [(0, .ref m0), (1, .int (nI pc)), (2, .int 186)], [.int 201, .int 186], M)) rfl rfl rfl ?_
  refine ps_if2 (S1 := (58, [(0, .ref m0), (1, .int (nI pc)), (2, .int 186)], [], M)) (S2 := (21, [(0, .ref m0), (1, .int (nI pc)), (2, .int 186)], [], M)) rfl rfl rfl (fun c_18 => ?_) (fun c_18 => ?_)
  rotate_left
  · exact absurd (by decide) (of_decide_eq_false c_18)
  refine ps_st (S' := (59, [(0, .ref m0), (1, .int (nI pc)), (2, .int 186)], [.int 186], M)) rfl rfl rfl ?_
  refine ps_st (S' := (61, [(0, .ref m0), (1, .int (nI pc)), (2, .int 186)], [.int 21, .int 186], M)) rfl rfl rfl ?_
  refine ps_if2 (S1 := (70, [(0, .ref m0), (1, .int (nI pc)), (2, .int 186)], [], M)) (S2 := (64, [(0, .ref m0), (1, .int (nI pc)), (2, .int 186)], [], M)) rfl rfl rfl (fun c_61 => ?_) (fun c_61 => ?_)
  · exact absurd (of_decide_eq_true c_61) (by decide)
  refine ps_st (S' := (65, [(0, .ref m0), (1, .int (nI pc)), (2, .int 186)], [.int 186], M)) rfl rfl rfl ?_
  refine ps_st (S' := (67, [(0, .ref m0), (1, .int (nI pc)), (2, .int 186)], [.int 25, .int 186], M)) rfl rfl rfl ?_
  refine ps_if2 (S1 := (82, [(0, .ref m0), (1, .int (nI pc)), (2, .int 186)], [], M)) (S2 := (70, [(0, .ref m0), (1, .int (nI pc)), (2, .int 186)], [], M)) rfl rfl rfl (fun c_67 => ?_) (fun c_67 => ?_)
  · exact absurd (of_decide_eq_true c_67) (by decide)
  refine ps_st (S' := (71, [(0, .ref m0), (1, .int (nI pc)), (2, .int 186)], [.int 186], M)) rfl rfl rfl ?_
  refine ps_st (S' := (73, [(0, .ref m0), (1, .int (nI pc)), (2, .int 186)], [.int 54, .int 186], M)) rfl rfl rfl ?_
  refine ps_if2 (S1 := (127, [(0, .ref m0), (1, .int (nI pc)), (2, .int 186)], [], M)) (S2 := (76, [(0, .ref m0), (1, .int (nI pc)), (2, .int 186)], [], M)) rfl rfl rfl (fun c_73 => ?_) (fun c_73 => ?_)
  · exact absurd (of_decide_eq_true c_73) (by decide)
  refine ps_st (S' := (77, [(0, .ref m0), (1, .int (nI pc)), (2, .int 186)], [.int 186], M)) rfl rfl rfl ?_
  refine ps_st (S' := (79, [(0, .ref m0), (1, .int (nI pc)), (2, .int 186)], [.int 58, .int 186], M)) rfl rfl rfl ?_
  refine ps_if2 (S1 := (127, [(0, .ref m0), (1, .int (nI pc)), (2, .int 186)], [], M)) (S2 := (82, [(0, .ref m0), (1, .int (nI pc)), (2, .int 186)], [], M)) rfl rfl rfl (fun c_79 => ?_) (fun c_79 => ?_)
  rotate_left
  · exact absurd (by decide) (of_decide_eq_false c_79)
  refine ps_st (S' := (128, [(0, .ref m0), (1, .int (nI pc)), (2, .int 186)], [.int 186], M)) rfl rfl rfl ?_
  refine ps_st (S' := (130, [(0, .ref m0), (1, .int (nI pc)), (2, .int 186)], [.int 26, .int 186], M)) rfl rfl rfl ?_
  refine ps_if2 (S1 := (139, [(0, .ref m0), (1, .int (nI pc)), (2, .int 186)], [], M)) (S2 := (133, [(0, .ref m0), (1, .int (nI pc)), (2, .int 186)], [], M)) rfl rfl rfl (fun c_130 => ?_) (fun c_130 => ?_)
  · exact absurd (of_decide_eq_true c_130) (by decide)
  refine ps_st (S' := (134, [(0, .ref m0), (1, .int (nI pc)), (2, .int 186)], [.int 186], M)) rfl rfl rfl ?_
  refine ps_st (S' := (136, [(0, .ref m0), (1, .int (nI pc)), (2, .int 186)], [.int 45, .int 186], M)) rfl rfl rfl ?_
  refine ps_if2 (S1 := (151, [(0, .ref m0), (2, .int 186)], [], M)) (S2 := (139, [(0, .ref m0), (1, .int (nI pc)), (2, .int 186)], [], M)) rfl rfl rfl (fun c_136 => ?_) (fun c_136 => ?_)
  · exact absurd (of_decide_eq_true c_136) (by decide)
  refine ps_st (S' := (140, [(0, .ref m0), (1, .int (nI pc)), (2, .int 186)], [.int 186], M)) rfl rfl rfl ?_
  refine ps_st (S' := (142, [(0, .ref m0), (1, .int (nI pc)), (2, .int 186)], [.int 59, .int 186], M)) rfl rfl rfl ?_
  refine ps_if2 (S1 := (196, [(0, .ref m0), (1, .int (nI pc)), (2, .int 186)], [], M)) (S2 := (145, [(0, .ref m0), (1, .int (nI pc)), (2, .int 186)], [], M)) rfl rfl rfl (fun c_142 => ?_) (fun c_142 => ?_)
  · exact absurd (of_decide_eq_true c_142) (by decide)
  refine ps_st (S' := (146, [(0, .ref m0), (1, .int (nI pc)), (2, .int 186)], [.int 186], M)) rfl rfl rfl ?_
  refine ps_st (S' := (148, [(0, .ref m0), (1, .int (nI pc)), (2, .int 186)], [.int 78, .int 186], M)) rfl rfl rfl ?_
  refine ps_if2 (S1 := (196, [(0, .ref m0), (1, .int (nI pc)), (2, .int 186)], [], M)) (S2 := (151, [(0, .ref m0), (2, .int 186)], [], M)) rfl rfl rfl (fun c_148 => ?_) (fun c_148 => ?_)
  rotate_left
  · exact absurd (by decide) (of_decide_eq_false c_148)
  refine ps_st (S' := (197, [(0, .ref m0), (1, .int (nI pc)), (2, .int 186)], [.int 186], M)) rfl rfl rfl ?_
  refine ps_st (S' := (200, [(0, .ref m0), (1, .int (nI pc)), (2, .int 186)], [.int 132, .int 186], M)) rfl rfl rfl ?_
  refine ps_if2 (S1 := (216, [(0, .ref m0), (1, .int (nI pc)), (2, .int 186)], [], M)) (S2 := (203, [(0, .ref m0), (1, .int (nI pc)), (2, .int 186)], [], M)) rfl rfl rfl (fun c_200 => ?_) (fun c_200 => ?_)
  rotate_left
  · exact absurd (by decide) (of_decide_eq_false c_200)
  refine ps_st (S' := (217, [(0, .ref m0), (1, .int (nI pc)), (2, .int 186)], [.int 186], M)) rfl rfl rfl ?_
  refine ps_st (S' := (220, [(0, .ref m0), (1, .int (nI pc)), (2, .int 186)], [.int 196, .int 186], M)) rfl rfl rfl ?_
  refine ps_if2 (S1 := (296, [(0, .ref m0), (1, .int (nI pc)), (2, .int 186)], [], M)) (S2 := (223, [(0, .ref m0), (1, .int (nI pc)), (2, .int 186)], [], M)) rfl rfl rfl (fun c_220 => ?_) (fun c_220 => ?_)
  rotate_left
  · exact absurd (by decide) (of_decide_eq_false c_220)
  refine ps_st (S' := (297, [(0, .ref m0), (1, .int (nI pc)), (2, .int 186)], [.int 186], M)) rfl rfl rfl ?_
  refine ps_st (S' := (300, [(0, .ref m0), (1, .int (nI pc)), (2, .int 186)], [.int 188, .int 186], M)) rfl rfl rfl ?_
  refine ps_if2 (S1 := (332, [(0, .ref m0), (1, .int (nI pc)), (2, .int 186)], [], M)) (S2 := (303, [(0, .ref m0), (1, .int (nI pc)), (2, .int 186)], [], M)) rfl rfl rfl (fun c_300 => ?_) (fun c_300 => ?_)
  rotate_left
  · exact absurd (by decide) (of_decide_eq_false c_300)
  refine ps_st (S' := (333, [(0, .ref m0), (1, .int (nI pc)), (2, .int 186)], [.int 186], M)) rfl rfl rfl ?_
  refine ps_st (S' := (335, [(0, .ref m0), (1, .int (nI pc)), (2, .int 186)], [.int 18, .int 186], M)) rfl rfl rfl ?_
  refine ps_if2 (S1 := (513, [(0, .ref m0), (1, .int (nI pc)), (2, .int 186)], [], M)) (S2 := (338, [(0, .ref m0), (1, .int (nI pc)), (2, .int 186)], [], M)) rfl rfl rfl (fun c_335 => ?_) (fun c_335 => ?_)
  · exact absurd (of_decide_eq_true c_335) (by decide)
  refine ps_st (S' := (339, [(0, .ref m0), (1, .int (nI pc)), (2, .int 186)], [.int 186], M)) rfl rfl rfl ?_
  refine ps_st (S' := (341, [(0, .ref m0), (1, .int (nI pc)), (2, .int 186)], [.int 20, .int 186], M)) rfl rfl rfl ?_
  refine ps_if2 (S1 := (513, [(0, .ref m0), (1, .int (nI pc)), (2, .int 186)], [], M)) (S2 := (344, [(0, .ref m0), (1, .int (nI pc)), (2, .int 186)], [], M)) rfl rfl rfl (fun c_341 => ?_) (fun c_341 => ?_)
  rotate_left
  · exact absurd (by decide) (of_decide_eq_false c_341)
  refine ps_st (S' := (514, [(0, .ref m0), (1, .int (nI pc)), (2, .int 186)], [.int 186], M)) rfl rfl rfl ?_
  refine ps_st (S' := (517, [(0, .ref m0), (1, .int (nI pc)), (2, .int 186)], [.int 178, .int 186], M)) rfl rfl rfl ?_
  refine ps_if2 (S1 := (549, [(0, .ref m0), (1, .int (nI pc)), (2, .int 186)], [], M)) (S2 := (520, [(0, .ref m0), (1, .int (nI pc)), (2, .int 186)], [], M)) rfl rfl rfl (fun c_517 => ?_) (fun c_517 => ?_)
  · exact absurd (of_decide_eq_true c_517) (by decide)
  refine ps_st (S' := (521, [(0, .ref m0), (1, .int (nI pc)), (2, .int 186)], [.int 186], M)) rfl rfl rfl ?_
  refine ps_st (S' := (524, [(0, .ref m0), (1, .int (nI pc)), (2, .int 186)], [.int 181, .int 186], M)) rfl rfl rfl ?_
  refine ps_if2 (S1 := (549, [(0, .ref m0), (1, .int (nI pc)), (2, .int 186)], [], M)) (S2 := (527, [(0, .ref m0), (1, .int (nI pc)), (2, .int 186)], [], M)) rfl rfl rfl (fun c_524 => ?_) (fun c_524 => ?_)
  rotate_left
  · exact absurd (by decide) (of_decide_eq_false c_524)
  refine ps_st (S' := (550, [(0, .ref m0), (1, .int (nI pc)), (2, .int 186)], [.int 186], M)) rfl rfl rfl ?_
  refine ps_st (S' := (553, [(0, .ref m0), (1, .int (nI pc)), (2, .int 186)], [.int 182, .int 186], M)) rfl rfl rfl ?_
  refine ps_if2 (S1 := (692, [(0, .ref m0), (1, .int (nI pc)), (2, .int 186)], [], M)) (S2 := (556, [(0, .ref m0), (1, .int (nI pc)), (2, .int 186)], [], M)) rfl rfl rfl (fun c_553 => ?_) (fun c_553 => ?_)
  · exact absurd (of_decide_eq_true c_553) (by decide)
  refine ps_st (S' := (557, [(0, .ref m0), (1, .int (nI pc)), (2, .int 186)], [.int 186], M)) rfl rfl rfl ?_
  refine ps_st (S' := (560, [(0, .ref m0), (1, .int (nI pc)), (2, .int 186)], [.int 185, .int 186], M)) rfl rfl rfl ?_
  refine ps_if2 (S1 := (692, [(0, .ref m0), (1, .int (nI pc)), (2, .int 186)], [], M)) (S2 := (563, [(0, .ref m0), (1, .int (nI pc)), (2, .int 186)], [], M)) rfl rfl rfl (fun c_560 => ?_) (fun c_560 => ?_)
  rotate_left
  · exact absurd (by decide) (of_decide_eq_false c_560)
  refine ps_st (S' := (693, [(0, .ref m0), (1, .int (nI pc)), (2, .int 186)], [.int 186], M)) rfl rfl rfl ?_
  refine ps_st (S' := (696, [(0, .ref m0), (1, .int (nI pc)), (2, .int 186)], [.int 186, .int 186], M)) rfl rfl rfl ?_
  refine ps_if2 (S1 := (741, [(0, .ref m0), (1, .int (nI pc)), (2, .int 186)], [], M)) (S2 := (699, [(0, .ref m0), (1, .int (nI pc)), (2, .int 186)], [], M)) rfl rfl rfl (fun c_696 => ?_) (fun c_696 => ?_)
  · exact absurd (of_decide_eq_true c_696) (by decide)
  refine ps_st (S' := (700, [(0, .ref m0), (1, .int (nI pc)), (2, .int 186)], [.ref m0], M)) rfl rfl rfl ?_
  refine ps_st (S' := (701, [(0, .ref m0), (1, .int (nI pc)), (2, .int 186)], [.ref m0, .ref m0], M)) rfl rfl rfl ?_
  refine ps_st (S' := (702, [(0, .ref m0), (1, .int (nI pc)), (2, .int 186)], [.int (nI pc), .ref m0, .ref m0], M)) rfl rfl rfl ?_
  refine ps_st (S' := (703, [(0, .ref m0), (1, .int (nI pc)), (2, .int 186)], [.int 1, .int (nI pc), .ref m0, .ref m0], M)) rfl rfl rfl ?_
  refine ps_st (S' := (704, [(0, .ref m0), (1, .int (nI pc)), (2, .int 186)], [.int ((nI pc) + 1), .ref m0, .ref m0], M)) rfl rfl rfl ?_
  rw [nI_add1 (p := pc) (k := 1) (x := 1) rfl (by omega)]
  show pl _ _ _ (_, [(0, .ref m0), (1, .int (nI pc)), (2, .int 186)], [.int (nI (pc + 1)), .ref m0, .ref m0], M) _
  refine pl_call (a := [.ref m0, .int (nI (pc + 1))]) (rest := [.ref m0]) rfl rfl rfl (rd_b2 (n := n) (f := f) (cb := cb) (p := (pc + 1)) hR hi77 hF (by omega)) (fun v1 M2 q3 => ?_)
  obtain ⟨rfl, rfl⟩ := q3
  show pl _ _ _ (707, [(0, .ref m0), (1, .int (nI pc)), (2, .int 186)], [.int (nI (by2 f (cb + (pc + 1)))), .ref m0], M) _
  show pl _ _ _ (_, [(0, .ref m0), (1, .int (nI pc)), (2, .int 186)], [.int (nI (by2 f (cb + pc + 1))), .ref m0], M) _
  have hb_704 := by2_lt f (cb + pc + 1)
  refine pl_call (a := [.ref m0, .int (nI (by2 f (cb + pc + 1)))]) (rest := []) rfl rfl rfl (rd_tag (n := n) (f := f) (tx := tx) (cN := cN) (A := A) (N := N) (mj := mj) (E := E) (k := (by2 f (cb + pc + 1))) hR hi51 hi52 hi53 hF hY hP (hEP) (hN) (hmj) (by2_lt _ _)) (fun v4 M5 q6 => ?_)
  obtain ⟨rfl, rfl⟩ := q6
  show pl _ _ _ (710, [(0, .ref m0), (1, .int (nI pc)), (2, .int 186)], [.int (nI (tg f E (by2 f (cb + pc + 1))))], M) _
  have htg_707 := tg_lt f E (by2 f (cb + pc + 1))
  refine ps_st (S' := (712, [(0, .ref m0), (1, .int (nI pc)), (2, .int 186)], [.int 18, .int (nI (tg f E (by2 f (cb + pc + 1))))], M)) rfl rfl rfl ?_
  refine ps_if2 (S1 := (739, [], [], M)) (S2 := (715, [(0, .ref m0), (1, .int (nI pc)), (2, .int 186)], [], M)) rfl rfl rfl (fun c_712 => ?_) (fun c_712 => ?_)
  · have c_712 : ¬ (nI (tg f E (by2 f (cb + pc + 1)))) = 18 := of_decide_eq_true c_712
    have n_712 : ¬ (tg f E (by2 f (cb + pc + 1)) = 18) := fun h9 => c_712 ((eq_nI (p := tg f E (by2 f (cb + pc + 1))) (n := 18) (Nat.lt_trans (tg_lt _ _ _) (by decide)) (by decide)).mpr h9)
    refine ps_st (S' := (740, [], [.int 0], M)) rfl rfl rfl ?_
    exact ps_ret rfl rfl (⟨congrArg (fun x => some (Value.int (nI x))) (show 0 = if tg f E (by2 f (cb + pc + 1)) = 18 ∧ by1 f (cb + pc + 3) = 0 ∧ by1 f (cb + pc + 4) = 0 then 1 else 0 from by
        first | ((repeat first | rw [if_pos (by omega)] | rw [if_neg (by omega)]) <;> first | rfl | omega) | ((repeat' split) <;> first | rfl | (exfalso; omega) | omega)), rfl⟩)
  · have c_712 : ¬ (¬ (nI (tg f E (by2 f (cb + pc + 1)))) = 18) := of_decide_eq_false c_712
    have n_712 : tg f E (by2 f (cb + pc + 1)) = 18 := (eq_nI (p := tg f E (by2 f (cb + pc + 1))) (n := 18) (Nat.lt_trans (tg_lt _ _ _) (by decide)) (by decide)).mp (Decidable.not_not.mp c_712)
    refine ps_st (S' := (716, [(0, .ref m0), (1, .int (nI pc)), (2, .int 186)], [.ref m0], M)) rfl rfl rfl ?_
    refine ps_st (S' := (717, [(0, .ref m0), (1, .int (nI pc)), (2, .int 186)], [.int (nI pc), .ref m0], M)) rfl rfl rfl ?_
    refine ps_st (S' := (718, [(0, .ref m0), (1, .int (nI pc)), (2, .int 186)], [.int 3, .int (nI pc), .ref m0], M)) rfl rfl rfl ?_
    refine ps_st (S' := (719, [(0, .ref m0), (1, .int (nI pc)), (2, .int 186)], [.int ((nI pc) + 3), .ref m0], M)) rfl rfl rfl ?_
    rw [nI_add1 (p := pc) (k := 3) (x := 3) rfl (by omega)]
    show pl _ _ _ (_, [(0, .ref m0), (1, .int (nI pc)), (2, .int 186)], [.int (nI (pc + 3)), .ref m0], M) _
    refine pl_call (a := [.ref m0, .int (nI (pc + 3))]) (rest := []) rfl rfl rfl (rd_b1 (n := n) (f := f) (cb := cb) (p := (pc + 3)) hR hi77 hF (by omega)) (fun v7 M8 q9 => ?_)
    obtain ⟨rfl, rfl⟩ := q9
    show pl _ _ _ (722, [(0, .ref m0), (1, .int (nI pc)), (2, .int 186)], [.int (nI (by1 f (cb + (pc + 3))))], M) _
    show pl _ _ _ (_, [(0, .ref m0), (1, .int (nI pc)), (2, .int 186)], [.int (nI (by1 f (cb + pc + 3)))], M) _
    have hb_719 := by1_lt f (cb + pc + 3)
    refine ps_if (S1 := (739, [], [], M)) (S2 := (725, [(0, .ref m0), (1, .int (nI pc)), (2, .int 186)], [], M)) rfl rfl rfl (fun c_722 => ?_) (fun c_722 => ?_)
    · have c_722 : ¬ (nI (by1 f (cb + pc + 3))) = 0 := of_decide_eq_true c_722
      have n_722 : ¬ (by1 f (cb + pc + 3) = 0) := fun h9 => c_722 ((eq_nI (p := by1 f (cb + pc + 3)) (n := 0) (Nat.lt_trans (by1_lt _ _) (by decide)) (by decide)).mpr h9)
      refine ps_st (S' := (740, [], [.int 0], M)) rfl rfl rfl ?_
      exact ps_ret rfl rfl (⟨congrArg (fun x => some (Value.int (nI x))) (show 0 = if tg f E (by2 f (cb + pc + 1)) = 18 ∧ by1 f (cb + pc + 3) = 0 ∧ by1 f (cb + pc + 4) = 0 then 1 else 0 from by
          first | ((repeat first | rw [if_pos (by omega)] | rw [if_neg (by omega)]) <;> first | rfl | omega) | ((repeat' split) <;> first | rfl | (exfalso; omega) | omega)), rfl⟩)
    · have c_722 : ¬ (¬ (nI (by1 f (cb + pc + 3))) = 0) := of_decide_eq_false c_722
      have n_722 : by1 f (cb + pc + 3) = 0 := (eq_nI (p := by1 f (cb + pc + 3)) (n := 0) (Nat.lt_trans (by1_lt _ _) (by decide)) (by decide)).mp (Decidable.not_not.mp c_722)
      refine ps_st (S' := (726, [(0, .ref m0), (1, .int (nI pc)), (2, .int 186)], [.ref m0], M)) rfl rfl rfl ?_
      refine ps_st (S' := (727, [(0, .ref m0), (1, .int (nI pc)), (2, .int 186)], [.int (nI pc), .ref m0], M)) rfl rfl rfl ?_
      refine ps_st (S' := (728, [(0, .ref m0), (1, .int (nI pc)), (2, .int 186)], [.int 4, .int (nI pc), .ref m0], M)) rfl rfl rfl ?_
      refine ps_st (S' := (729, [(0, .ref m0), (1, .int (nI pc)), (2, .int 186)], [.int ((nI pc) + 4), .ref m0], M)) rfl rfl rfl ?_
      rw [nI_add1 (p := pc) (k := 4) (x := 4) rfl (by omega)]
      show pl _ _ _ (_, [(0, .ref m0), (1, .int (nI pc)), (2, .int 186)], [.int (nI (pc + 4)), .ref m0], M) _
      refine pl_call (a := [.ref m0, .int (nI (pc + 4))]) (rest := []) rfl rfl rfl (rd_b1 (n := n) (f := f) (cb := cb) (p := (pc + 4)) hR hi77 hF (by omega)) (fun v10 M11 q12 => ?_)
      obtain ⟨rfl, rfl⟩ := q12
      show pl _ _ _ (732, [(0, .ref m0), (1, .int (nI pc)), (2, .int 186)], [.int (nI (by1 f (cb + (pc + 4))))], M) _
      show pl _ _ _ (_, [(0, .ref m0), (1, .int (nI pc)), (2, .int 186)], [.int (nI (by1 f (cb + pc + 4)))], M) _
      have hb_729 := by1_lt f (cb + pc + 4)
      refine ps_if (S1 := (739, [], [], M)) (S2 := (735, [(0, .ref m0), (1, .int (nI pc)), (2, .int 186)], [], M)) rfl rfl rfl (fun c_732 => ?_) (fun c_732 => ?_)
      · have c_732 : ¬ (nI (by1 f (cb + pc + 4))) = 0 := of_decide_eq_true c_732
        have n_732 : ¬ (by1 f (cb + pc + 4) = 0) := fun h9 => c_732 ((eq_nI (p := by1 f (cb + pc + 4)) (n := 0) (Nat.lt_trans (by1_lt _ _) (by decide)) (by decide)).mpr h9)
        refine ps_st (S' := (740, [], [.int 0], M)) rfl rfl rfl ?_
        exact ps_ret rfl rfl (⟨congrArg (fun x => some (Value.int (nI x))) (show 0 = if tg f E (by2 f (cb + pc + 1)) = 18 ∧ by1 f (cb + pc + 3) = 0 ∧ by1 f (cb + pc + 4) = 0 then 1 else 0 from by
            first | ((repeat first | rw [if_pos (by omega)] | rw [if_neg (by omega)]) <;> first | rfl | omega) | ((repeat' split) <;> first | rfl | (exfalso; omega) | omega)), rfl⟩)
      · have c_732 : ¬ (¬ (nI (by1 f (cb + pc + 4))) = 0) := of_decide_eq_false c_732
        have n_732 : by1 f (cb + pc + 4) = 0 := (eq_nI (p := by1 f (cb + pc + 4)) (n := 0) (Nat.lt_trans (by1_lt _ _) (by decide)) (by decide)).mp (Decidable.not_not.mp c_732)
        refine ps_st (S' := (736, [(0, .ref m0), (1, .int (nI pc)), (2, .int 186)], [.int 1], M)) rfl rfl rfl ?_
        refine ps_st (S' := (740, [], [.int 1], M)) rfl rfl rfl ?_
        exact ps_ret rfl rfl (⟨congrArg (fun x => some (Value.int (nI x))) (show 1 = if tg f E (by2 f (cb + pc + 1)) = 18 ∧ by1 f (cb + pc + 3) = 0 ∧ by1 f (cb + pc + 4) = 0 then 1 else 0 from by
            first | ((repeat first | rw [if_pos (by omega)] | rw [if_neg (by omega)]) <;> first | rfl | omega) | ((repeat' split) <;> first | rfl | (exfalso; omega) | omega)), rfl⟩)
set_option maxHeartbeats 1000000 in
theorem rd_op187 {g : xe_G} {m0 : Nat} {q : Nat → Nat} {z : Nat × Nat} {I : rI} {R : rR} {M : mi_H} {n : Nat} {f : Nat → Int32} {tx : List (List Nat)} {cN : Nat} {A : Nat → Nat} {N mj : Nat} {E : List (Nat × Nat)} {cb ml s9 pc : Nat} (hR : RS g m0 q z I R M) (hi51 : I 51 = some 0) (hi52 : I 52 = some (nI N)) (hi53 : I 53 = some (nI mj)) (hi77 : I 77 = some (nI cb)) (hi79 : I 79 = some (nI ml)) (hi9 : I 9 = some (nI s9)) (hF : FK n f I R) (hY : SYT tx cN A I R) (hP : RPV f n E tx N I R) (hEP : EP f n E) (hN : N < 65536) (hmj : mj < 65536) (hml : ml < 65536) (hs9 : s9 < tx.length ∧ tx.getD s9 [] = ltx 14) (hCP : CP f n E) (hPF : PF f n E) (hin : cb + pc + 3 ≤ n) : pt (mT g) 228 [.ref m0, .int (nI pc), .int 187] M (fun v M' => (v = some (.int (nI (plnN f n E (by2 f (cb + pc + 1))))) ∧ M = M')) := by
  refine pt_in (b := mb_228 g) rfl (fun kf => ?_)
  show pl (mT g) kf (mb_228 g).2 (0, [(0, .ref m0), (1, .int (nI pc)), (2, .int 187)], [], M) _
  have hn := hF.1
  have htl := hY.1.2.2.1
  have LL : ∀ (kf : Nat), (∀ (s d : Nat), (s < tx.length ∧ tx.getD s [] = (tX f n E (fi f E (by2 f (cb + pc + 1))))) → (d ≤ (tX f n E (fi f E (by2 f (cb + pc + 1)))).length) → (∀ i9, i9 < d → (tX f n E (fi f E (by2 f (cb + pc + 1)))).getD i9 0 = 91) → (tg f E (by2 f (cb + pc + 1)) = 7) →  pl (mT g) kf (mb_228 g).2 (806, [(0, .ref m0), (1, .int (nI pc)), (2, .int 187), (4, .int (nI s)), (5, .int (nI d))], [], M) (fun v M' => (v = some (.int (nI (plnN f n E (by2 f (cb + pc + 1))))) ∧ M = M'))) := by
    intro kf
    induction kf with
    | zero => exact (by intros; exact pl_0)
    | succ kf ih =>
      intro s d hs hd hb ht7
      have hcp := hCP _ ht7
      have hlx := tx_len f n E (fi f E (by2 f (cb + pc + 1)))
      refine ps_st1 (S' := (808, [(0, .ref m0), (1, .int (nI pc)), (2, .int 187), (4, .int (nI s)), (5, .int (nI d))], [.int (nI d)], M)) rfl rfl rfl ?_
      refine ps_st (S' := (809, [(0, .ref m0), (1, .int (nI pc)), (2, .int 187), (4, .int (nI s)), (5, .int (nI d))], [.ref m0, .int (nI d)], M)) rfl rfl rfl ?_
      refine ps_st (S' := (811, [(0, .ref m0), (1, .int (nI pc)), (2, .int 187), (4, .int (nI s)), (5, .int (nI d))], [.int (nI s), .ref m0, .int (nI d)], M)) rfl rfl rfl ?_
      refine pl_call (a := [.ref m0, .int (nI s)]) (rest := [.int (nI d)]) rfl rfl rfl (rd_length (tx := tx) (cN := cN) (A := A) (s := s) (l := (tX f n E (fi f E (by2 f (cb + pc + 1))))) hR hY (hs)) (fun v1 M2 q3 => ?_)
      obtain ⟨rfl, rfl⟩ := q3
      show pl _ _ _ (814, [(0, .ref m0), (1, .int (nI pc)), (2, .int 187), (4, .int (nI s)), (5, .int (nI d))], [.int (nI ((tX f n E (fi f E (by2 f (cb + pc + 1)))).length)), .int (nI d)], M) _
      refine ps_if2 (S1 := (836, [(0, .ref m0), (1, .int (nI pc)), (2, .int 187), (5, .int (nI d))], [], M)) (S2 := (817, [(0, .ref m0), (1, .int (nI pc)), (2, .int 187), (4, .int (nI s)), (5, .int (nI d))], [], M)) rfl rfl rfl (fun c_814 => ?_) (fun c_814 => ?_)
      · have c_814 : (nI ((tX f n E (fi f E (by2 f (cb + pc + 1)))).length)) ≤ (nI d) := of_decide_eq_true c_814
        have n_814 : (tX f n E (fi f E (by2 f (cb + pc + 1)))).length ≤ d := (le_nI (p := (tX f n E (fi f E (by2 f (cb + pc + 1)))).length) (n := d) (by omega) (by omega)).mp c_814
        refine ps_st (S' := (837, [(0, .ref m0), (1, .int (nI pc)), (2, .int 187), (5, .int (nI d))], [.int 187], M)) rfl rfl rfl ?_
        refine ps_st (S' := (840, [(0, .ref m0), (1, .int (nI pc)), (2, .int 187), (5, .int (nI d))], [.int 187, .int 187], M)) rfl rfl rfl ?_
        refine ps_if2 (S1 := (854, [(0, .ref m0), (1, .int (nI pc)), (2, .int 187), (5, .int (nI d))], [], M)) (S2 := (843, [(0, .ref m0), (1, .int (nI pc)), (2, .int 187), (5, .int (nI d))], [], M)) rfl rfl rfl (fun c_840 => ?_) (fun c_840 => ?_)
        · exact absurd (of_decide_eq_true c_840) (by decide)
        refine ps_st (S' := (845, [(0, .ref m0), (1, .int (nI pc)), (2, .int 187), (5, .int (nI d))], [.int (nI d)], M)) rfl rfl rfl ?_
        refine ps_if (S1 := (852, [(0, .ref m0), (1, .int (nI pc)), (2, .int 187), (5, .int (nI d))], [], M)) (S2 := (848, [(0, .ref m0), (1, .int (nI pc)), (2, .int 187), (5, .int (nI d))], [], M)) rfl rfl rfl (fun c_845 => ?_) (fun c_845 => ?_)
        · have c_845 : ¬ (nI d) = 0 := of_decide_eq_true c_845
          have n_845 : ¬ (d = 0) := fun h9 => c_845 ((eq_nI (p := d) (n := 0) (by omega) (by decide)).mpr h9)
          refine ps_st (S' := (853, [], [.int 0], M)) rfl rfl rfl ?_
          exact ps_ret rfl rfl (⟨congrArg (fun x => some (Value.int (nI x))) (show 0 = plnN f n E (by2 f (cb + pc + 1)) from by
              have hdm : dmN (tX f n E (fi f E (by2 f (cb + pc + 1)))) = d := dm_of hd hb (Or.inl (by omega))
              have hd0 := dm_0 hcp.2
              unfold plnN
              first | ((repeat first | rw [if_pos (by omega)] | rw [if_neg (by omega)]) <;> first | rfl | omega) | ((repeat' split) <;> first | rfl | (exfalso; omega) | omega)), rfl⟩)
        · have c_845 : ¬ (¬ (nI d) = 0) := of_decide_eq_false c_845
          have n_845 : d = 0 := (eq_nI (p := d) (n := 0) (by omega) (by decide)).mp (Decidable.not_not.mp c_845)
          refine ps_st (S' := (849, [(0, .ref m0), (1, .int (nI pc)), (2, .int 187), (5, .int (nI d))], [.int 1], M)) rfl rfl rfl ?_
          refine ps_st (S' := (853, [], [.int 1], M)) rfl rfl rfl ?_
          exact ps_ret rfl rfl (⟨congrArg (fun x => some (Value.int (nI x))) (show 1 = plnN f n E (by2 f (cb + pc + 1)) from by
              have hdm : dmN (tX f n E (fi f E (by2 f (cb + pc + 1)))) = d := dm_of hd hb (Or.inl (by omega))
              have hd0 := dm_0 hcp.2
              unfold plnN
              first | ((repeat first | rw [if_pos (by omega)] | rw [if_neg (by omega)]) <;> first | rfl | omega) | ((repeat' split) <;> first | rfl | (exfalso; omega) | omega)), rfl⟩)
      · have c_814 : ¬ ((nI ((tX f n E (fi f E (by2 f (cb + pc + 1)))).length)) ≤ (nI d)) := of_decide_eq_false c_814
        have n_814 : ¬ ((tX f n E (fi f E (by2 f (cb + pc + 1)))).length ≤ d) := fun h9 => c_814 ((le_nI (p := (tX f n E (fi f E (by2 f (cb + pc + 1)))).length) (n := d) (by omega) (by omega)).mpr h9)
        refine ps_st (S' := (818, [(0, .ref m0), (1, .int (nI pc)), (2, .int 187), (4, .int (nI s)), (5, .int (nI d))], [.ref m0], M)) rfl rfl rfl ?_
        refine ps_st (S' := (820, [(0, .ref m0), (1, .int (nI pc)), (2, .int 187), (4, .int (nI s)), (5, .int (nI d))], [.int (nI s), .ref m0], M)) rfl rfl rfl ?_
        refine ps_st (S' := (822, [(0, .ref m0), (1, .int (nI pc)), (2, .int 187), (4, .int (nI s)), (5, .int (nI d))], [.int (nI d), .int (nI s), .ref m0], M)) rfl rfl rfl ?_
        refine pl_call (a := [.ref m0, .int (nI s), .int (nI d)]) (rest := []) rfl rfl rfl (rd_at (tx := tx) (cN := cN) (A := A) (s := s) (l := (tX f n E (fi f E (by2 f (cb + pc + 1))))) (k := d) hR hY (hs) (by omega)) (fun v4 M5 q6 => ?_)
        obtain ⟨rfl, rfl⟩ := q6
        show pl _ _ _ (825, [(0, .ref m0), (1, .int (nI pc)), (2, .int 187), (4, .int (nI s)), (5, .int (nI d))], [.int (nI ((tX f n E (fi f E (by2 f (cb + pc + 1)))).getD d 0))], M) _
        have hc_822 := hY.ch hs (k := d) (by omega)
        refine ps_st (S' := (827, [(0, .ref m0), (1, .int (nI pc)), (2, .int 187), (4, .int (nI s)), (5, .int (nI d))], [.int 91, .int (nI ((tX f n E (fi f E (by2 f (cb + pc + 1)))).getD d 0))], M)) rfl rfl rfl ?_
        refine ps_if2 (S1 := (836, [(0, .ref m0), (1, .int (nI pc)), (2, .int 187), (5, .int (nI d))], [], M)) (S2 := (830, [(0, .ref m0), (1, .int (nI pc)), (2, .int 187), (4, .int (nI s)), (5, .int (nI d))], [], M)) rfl rfl rfl (fun c_827 => ?_) (fun c_827 => ?_)
        · have c_827 : ¬ (nI ((tX f n E (fi f E (by2 f (cb + pc + 1)))).getD d 0)) = 91 := of_decide_eq_true c_827
          have n_827 : ¬ ((tX f n E (fi f E (by2 f (cb + pc + 1)))).getD d 0 = 91) := fun h9 => c_827 ((eq_nI (p := (tX f n E (fi f E (by2 f (cb + pc + 1)))).getD d 0) (n := 91) (Nat.lt_trans (tx_ch _ _ _ _ _) (by decide)) (by decide)).mpr h9)
          refine ps_st (S' := (837, [(0, .ref m0), (1, .int (nI pc)), (2, .int 187), (5, .int (nI d))], [.int 187], M)) rfl rfl rfl ?_
          refine ps_st (S' := (840, [(0, .ref m0), (1, .int (nI pc)), (2, .int 187), (5, .int (nI d))], [.int 187, .int 187], M)) rfl rfl rfl ?_
          refine ps_if2 (S1 := (854, [(0, .ref m0), (1, .int (nI pc)), (2, .int 187), (5, .int (nI d))], [], M)) (S2 := (843, [(0, .ref m0), (1, .int (nI pc)), (2, .int 187), (5, .int (nI d))], [], M)) rfl rfl rfl (fun c_840 => ?_) (fun c_840 => ?_)
          · exact absurd (of_decide_eq_true c_840) (by decide)
          refine ps_st (S' := (845, [(0, .ref m0), (1, .int (nI pc)), (2, .int 187), (5, .int (nI d))], [.int (nI d)], M)) rfl rfl rfl ?_
          refine ps_if (S1 := (852, [(0, .ref m0), (1, .int (nI pc)), (2, .int 187), (5, .int (nI d))], [], M)) (S2 := (848, [(0, .ref m0), (1, .int (nI pc)), (2, .int 187), (5, .int (nI d))], [], M)) rfl rfl rfl (fun c_845 => ?_) (fun c_845 => ?_)
          · have c_845 : ¬ (nI d) = 0 := of_decide_eq_true c_845
            have n_845 : ¬ (d = 0) := fun h9 => c_845 ((eq_nI (p := d) (n := 0) (by omega) (by decide)).mpr h9)
            refine ps_st (S' := (853, [], [.int 0], M)) rfl rfl rfl ?_
            exact ps_ret rfl rfl (⟨congrArg (fun x => some (Value.int (nI x))) (show 0 = plnN f n E (by2 f (cb + pc + 1)) from by
                have hdm : dmN (tX f n E (fi f E (by2 f (cb + pc + 1)))) = d := dm_of hd hb (Or.inr (by omega))
                have hd0 := dm_0 hcp.2
                unfold plnN
                first | ((repeat first | rw [if_pos (by omega)] | rw [if_neg (by omega)]) <;> first | rfl | omega) | ((repeat' split) <;> first | rfl | (exfalso; omega) | omega)), rfl⟩)
          · have c_845 : ¬ (¬ (nI d) = 0) := of_decide_eq_false c_845
            have n_845 : d = 0 := (eq_nI (p := d) (n := 0) (by omega) (by decide)).mp (Decidable.not_not.mp c_845)
            refine ps_st (S' := (849, [(0, .ref m0), (1, .int (nI pc)), (2, .int 187), (5, .int (nI d))], [.int 1], M)) rfl rfl rfl ?_
            refine ps_st (S' := (853, [], [.int 1], M)) rfl rfl rfl ?_
            exact ps_ret rfl rfl (⟨congrArg (fun x => some (Value.int (nI x))) (show 1 = plnN f n E (by2 f (cb + pc + 1)) from by
                have hdm : dmN (tX f n E (fi f E (by2 f (cb + pc + 1)))) = d := dm_of hd hb (Or.inr (by omega))
                have hd0 := dm_0 hcp.2
                unfold plnN
                first | ((repeat first | rw [if_pos (by omega)] | rw [if_neg (by omega)]) <;> first | rfl | omega) | ((repeat' split) <;> first | rfl | (exfalso; omega) | omega)), rfl⟩)
        · have c_827 : ¬ (¬ (nI ((tX f n E (fi f E (by2 f (cb + pc + 1)))).getD d 0)) = 91) := of_decide_eq_false c_827
          have n_827 : (tX f n E (fi f E (by2 f (cb + pc + 1)))).getD d 0 = 91 := (eq_nI (p := (tX f n E (fi f E (by2 f (cb + pc + 1)))).getD d 0) (n := 91) (Nat.lt_trans (tx_ch _ _ _ _ _) (by decide)) (by decide)).mp (Decidable.not_not.mp c_827)
          refine ps_st (S' := (833, [(5, .int ((nI d) + 1)), (0, .ref m0), (1, .int (nI pc)), (2, .int 187), (4, .int (nI s))], [], M)) rfl rfl rfl ?_
          rw [nI_add1 (p := d) (k := 1) (x := 1) rfl (by omega)]
          show pl _ _ _ (_, [(5, .int (nI (d + 1))), (0, .ref m0), (1, .int (nI pc)), (2, .int 187), (4, .int (nI s))], [], M) _
          refine ps_st (S' := (806, [(0, .ref m0), (1, .int (nI pc)), (2, .int 187), (4, .int (nI s)), (5, .int (nI (d + 1)))], [], M)) rfl rfl rfl ?_
          exact ih (s) (d + 1)  (hs) (by omega) (fun i9 h9 => (by by_cases e9 : i9 = d; rw [e9]; omega; exact hb i9 (by omega))) (ht7)
  refine ps_st (S' := (1, [(0, .ref m0), (1, .int (nI pc)), (2, .int 187)], [.int 187], M)) rfl rfl rfl ?_
  refine ps_st (S' := (4, [(0, .ref m0), (1, .int (nI pc)), (2, .int 187)], [.int 168, .int 187], M)) rfl rfl rfl ?_
  refine ps_if2 (S1 := (21, [(0, .ref m0), (1, .int (nI pc)), (2, .int 187)], [], M)) (S2 := (7, [(0, .ref m0), (1, .int (nI pc)), (2, .int 187)], [], M)) rfl rfl rfl (fun c_4 => ?_) (fun c_4 => ?_)
  · exact absurd (of_decide_eq_true c_4) (by decide)
  refine ps_st (S' := (8, [(0, .ref m0), (1, .int (nI pc)), (2, .int 187)], [.int 187], M)) rfl rfl rfl ?_
  refine ps_st (S' := (11, [(0, .ref m0), (1, .int (nI pc)), (2, .int 187)], [.int 169, .int 187], M)) rfl rfl rfl ?_
  refine ps_if2 (S1 := (21, [(0, .ref m0), (1, .int (nI pc)), (2, .int 187)], [], M)) (S2 := (14, [(0, .ref m0), (1, .int (nI pc)), (2, .int 187)], [], M)) rfl rfl rfl (fun c_11 => ?_) (fun c_11 => ?_)
  · exact absurd (of_decide_eq_true c_11) (by decide)
  refine ps_st (S' := (15, [(0, .ref m0), (1, .int (nI pc)), (2, .int 187)], [.int 187], M)) rfl rfl rfl ?_
  refine ps_st (S' := (18, [(0, .ref m0), (1, .int (nI pc)), (2, .int 187)], [.int 201, .int 187], M)) rfl rfl rfl ?_
  refine ps_if2 (S1 := (58, [(0, .ref m0), (1, .int (nI pc)), (2, .int 187)], [], M)) (S2 := (21, [(0, .ref m0), (1, .int (nI pc)), (2, .int 187)], [], M)) rfl rfl rfl (fun c_18 => ?_) (fun c_18 => ?_)
  rotate_left
  · exact absurd (by decide) (of_decide_eq_false c_18)
  refine ps_st (S' := (59, [(0, .ref m0), (1, .int (nI pc)), (2, .int 187)], [.int 187], M)) rfl rfl rfl ?_
  refine ps_st (S' := (61, [(0, .ref m0), (1, .int (nI pc)), (2, .int 187)], [.int 21, .int 187], M)) rfl rfl rfl ?_
  refine ps_if2 (S1 := (70, [(0, .ref m0), (1, .int (nI pc)), (2, .int 187)], [], M)) (S2 := (64, [(0, .ref m0), (1, .int (nI pc)), (2, .int 187)], [], M)) rfl rfl rfl (fun c_61 => ?_) (fun c_61 => ?_)
  · exact absurd (of_decide_eq_true c_61) (by decide)
  refine ps_st (S' := (65, [(0, .ref m0), (1, .int (nI pc)), (2, .int 187)], [.int 187], M)) rfl rfl rfl ?_
  refine ps_st (S' := (67, [(0, .ref m0), (1, .int (nI pc)), (2, .int 187)], [.int 25, .int 187], M)) rfl rfl rfl ?_
  refine ps_if2 (S1 := (82, [(0, .ref m0), (1, .int (nI pc)), (2, .int 187)], [], M)) (S2 := (70, [(0, .ref m0), (1, .int (nI pc)), (2, .int 187)], [], M)) rfl rfl rfl (fun c_67 => ?_) (fun c_67 => ?_)
  · exact absurd (of_decide_eq_true c_67) (by decide)
  refine ps_st (S' := (71, [(0, .ref m0), (1, .int (nI pc)), (2, .int 187)], [.int 187], M)) rfl rfl rfl ?_
  refine ps_st (S' := (73, [(0, .ref m0), (1, .int (nI pc)), (2, .int 187)], [.int 54, .int 187], M)) rfl rfl rfl ?_
  refine ps_if2 (S1 := (127, [(0, .ref m0), (1, .int (nI pc)), (2, .int 187)], [], M)) (S2 := (76, [(0, .ref m0), (1, .int (nI pc)), (2, .int 187)], [], M)) rfl rfl rfl (fun c_73 => ?_) (fun c_73 => ?_)
  · exact absurd (of_decide_eq_true c_73) (by decide)
  refine ps_st (S' := (77, [(0, .ref m0), (1, .int (nI pc)), (2, .int 187)], [.int 187], M)) rfl rfl rfl ?_
  refine ps_st (S' := (79, [(0, .ref m0), (1, .int (nI pc)), (2, .int 187)], [.int 58, .int 187], M)) rfl rfl rfl ?_
  refine ps_if2 (S1 := (127, [(0, .ref m0), (1, .int (nI pc)), (2, .int 187)], [], M)) (S2 := (82, [(0, .ref m0), (1, .int (nI pc)), (2, .int 187)], [], M)) rfl rfl rfl (fun c_79 => ?_) (fun c_79 => ?_)
  rotate_left
  · exact absurd (by decide) (of_decide_eq_false c_79)
  refine ps_st (S' := (128, [(0, .ref m0), (1, .int (nI pc)), (2, .int 187)], [.int 187], M)) rfl rfl rfl ?_
  refine ps_st (S' := (130, [(0, .ref m0), (1, .int (nI pc)), (2, .int 187)], [.int 26, .int 187], M)) rfl rfl rfl ?_
  refine ps_if2 (S1 := (139, [(0, .ref m0), (1, .int (nI pc)), (2, .int 187)], [], M)) (S2 := (133, [(0, .ref m0), (1, .int (nI pc)), (2, .int 187)], [], M)) rfl rfl rfl (fun c_130 => ?_) (fun c_130 => ?_)
  · exact absurd (of_decide_eq_true c_130) (by decide)
  refine ps_st (S' := (134, [(0, .ref m0), (1, .int (nI pc)), (2, .int 187)], [.int 187], M)) rfl rfl rfl ?_
  refine ps_st (S' := (136, [(0, .ref m0), (1, .int (nI pc)), (2, .int 187)], [.int 45, .int 187], M)) rfl rfl rfl ?_
  refine ps_if2 (S1 := (151, [(0, .ref m0), (2, .int 187)], [], M)) (S2 := (139, [(0, .ref m0), (1, .int (nI pc)), (2, .int 187)], [], M)) rfl rfl rfl (fun c_136 => ?_) (fun c_136 => ?_)
  · exact absurd (of_decide_eq_true c_136) (by decide)
  refine ps_st (S' := (140, [(0, .ref m0), (1, .int (nI pc)), (2, .int 187)], [.int 187], M)) rfl rfl rfl ?_
  refine ps_st (S' := (142, [(0, .ref m0), (1, .int (nI pc)), (2, .int 187)], [.int 59, .int 187], M)) rfl rfl rfl ?_
  refine ps_if2 (S1 := (196, [(0, .ref m0), (1, .int (nI pc)), (2, .int 187)], [], M)) (S2 := (145, [(0, .ref m0), (1, .int (nI pc)), (2, .int 187)], [], M)) rfl rfl rfl (fun c_142 => ?_) (fun c_142 => ?_)
  · exact absurd (of_decide_eq_true c_142) (by decide)
  refine ps_st (S' := (146, [(0, .ref m0), (1, .int (nI pc)), (2, .int 187)], [.int 187], M)) rfl rfl rfl ?_
  refine ps_st (S' := (148, [(0, .ref m0), (1, .int (nI pc)), (2, .int 187)], [.int 78, .int 187], M)) rfl rfl rfl ?_
  refine ps_if2 (S1 := (196, [(0, .ref m0), (1, .int (nI pc)), (2, .int 187)], [], M)) (S2 := (151, [(0, .ref m0), (2, .int 187)], [], M)) rfl rfl rfl (fun c_148 => ?_) (fun c_148 => ?_)
  rotate_left
  · exact absurd (by decide) (of_decide_eq_false c_148)
  refine ps_st (S' := (197, [(0, .ref m0), (1, .int (nI pc)), (2, .int 187)], [.int 187], M)) rfl rfl rfl ?_
  refine ps_st (S' := (200, [(0, .ref m0), (1, .int (nI pc)), (2, .int 187)], [.int 132, .int 187], M)) rfl rfl rfl ?_
  refine ps_if2 (S1 := (216, [(0, .ref m0), (1, .int (nI pc)), (2, .int 187)], [], M)) (S2 := (203, [(0, .ref m0), (1, .int (nI pc)), (2, .int 187)], [], M)) rfl rfl rfl (fun c_200 => ?_) (fun c_200 => ?_)
  rotate_left
  · exact absurd (by decide) (of_decide_eq_false c_200)
  refine ps_st (S' := (217, [(0, .ref m0), (1, .int (nI pc)), (2, .int 187)], [.int 187], M)) rfl rfl rfl ?_
  refine ps_st (S' := (220, [(0, .ref m0), (1, .int (nI pc)), (2, .int 187)], [.int 196, .int 187], M)) rfl rfl rfl ?_
  refine ps_if2 (S1 := (296, [(0, .ref m0), (1, .int (nI pc)), (2, .int 187)], [], M)) (S2 := (223, [(0, .ref m0), (1, .int (nI pc)), (2, .int 187)], [], M)) rfl rfl rfl (fun c_220 => ?_) (fun c_220 => ?_)
  rotate_left
  · exact absurd (by decide) (of_decide_eq_false c_220)
  refine ps_st (S' := (297, [(0, .ref m0), (1, .int (nI pc)), (2, .int 187)], [.int 187], M)) rfl rfl rfl ?_
  refine ps_st (S' := (300, [(0, .ref m0), (1, .int (nI pc)), (2, .int 187)], [.int 188, .int 187], M)) rfl rfl rfl ?_
  refine ps_if2 (S1 := (332, [(0, .ref m0), (1, .int (nI pc)), (2, .int 187)], [], M)) (S2 := (303, [(0, .ref m0), (1, .int (nI pc)), (2, .int 187)], [], M)) rfl rfl rfl (fun c_300 => ?_) (fun c_300 => ?_)
  rotate_left
  · exact absurd (by decide) (of_decide_eq_false c_300)
  refine ps_st (S' := (333, [(0, .ref m0), (1, .int (nI pc)), (2, .int 187)], [.int 187], M)) rfl rfl rfl ?_
  refine ps_st (S' := (335, [(0, .ref m0), (1, .int (nI pc)), (2, .int 187)], [.int 18, .int 187], M)) rfl rfl rfl ?_
  refine ps_if2 (S1 := (513, [(0, .ref m0), (1, .int (nI pc)), (2, .int 187)], [], M)) (S2 := (338, [(0, .ref m0), (1, .int (nI pc)), (2, .int 187)], [], M)) rfl rfl rfl (fun c_335 => ?_) (fun c_335 => ?_)
  · exact absurd (of_decide_eq_true c_335) (by decide)
  refine ps_st (S' := (339, [(0, .ref m0), (1, .int (nI pc)), (2, .int 187)], [.int 187], M)) rfl rfl rfl ?_
  refine ps_st (S' := (341, [(0, .ref m0), (1, .int (nI pc)), (2, .int 187)], [.int 20, .int 187], M)) rfl rfl rfl ?_
  refine ps_if2 (S1 := (513, [(0, .ref m0), (1, .int (nI pc)), (2, .int 187)], [], M)) (S2 := (344, [(0, .ref m0), (1, .int (nI pc)), (2, .int 187)], [], M)) rfl rfl rfl (fun c_341 => ?_) (fun c_341 => ?_)
  rotate_left
  · exact absurd (by decide) (of_decide_eq_false c_341)
  refine ps_st (S' := (514, [(0, .ref m0), (1, .int (nI pc)), (2, .int 187)], [.int 187], M)) rfl rfl rfl ?_
  refine ps_st (S' := (517, [(0, .ref m0), (1, .int (nI pc)), (2, .int 187)], [.int 178, .int 187], M)) rfl rfl rfl ?_
  refine ps_if2 (S1 := (549, [(0, .ref m0), (1, .int (nI pc)), (2, .int 187)], [], M)) (S2 := (520, [(0, .ref m0), (1, .int (nI pc)), (2, .int 187)], [], M)) rfl rfl rfl (fun c_517 => ?_) (fun c_517 => ?_)
  · exact absurd (of_decide_eq_true c_517) (by decide)
  refine ps_st (S' := (521, [(0, .ref m0), (1, .int (nI pc)), (2, .int 187)], [.int 187], M)) rfl rfl rfl ?_
  refine ps_st (S' := (524, [(0, .ref m0), (1, .int (nI pc)), (2, .int 187)], [.int 181, .int 187], M)) rfl rfl rfl ?_
  refine ps_if2 (S1 := (549, [(0, .ref m0), (1, .int (nI pc)), (2, .int 187)], [], M)) (S2 := (527, [(0, .ref m0), (1, .int (nI pc)), (2, .int 187)], [], M)) rfl rfl rfl (fun c_524 => ?_) (fun c_524 => ?_)
  rotate_left
  · exact absurd (by decide) (of_decide_eq_false c_524)
  refine ps_st (S' := (550, [(0, .ref m0), (1, .int (nI pc)), (2, .int 187)], [.int 187], M)) rfl rfl rfl ?_
  refine ps_st (S' := (553, [(0, .ref m0), (1, .int (nI pc)), (2, .int 187)], [.int 182, .int 187], M)) rfl rfl rfl ?_
  refine ps_if2 (S1 := (692, [(0, .ref m0), (1, .int (nI pc)), (2, .int 187)], [], M)) (S2 := (556, [(0, .ref m0), (1, .int (nI pc)), (2, .int 187)], [], M)) rfl rfl rfl (fun c_553 => ?_) (fun c_553 => ?_)
  · exact absurd (of_decide_eq_true c_553) (by decide)
  refine ps_st (S' := (557, [(0, .ref m0), (1, .int (nI pc)), (2, .int 187)], [.int 187], M)) rfl rfl rfl ?_
  refine ps_st (S' := (560, [(0, .ref m0), (1, .int (nI pc)), (2, .int 187)], [.int 185, .int 187], M)) rfl rfl rfl ?_
  refine ps_if2 (S1 := (692, [(0, .ref m0), (1, .int (nI pc)), (2, .int 187)], [], M)) (S2 := (563, [(0, .ref m0), (1, .int (nI pc)), (2, .int 187)], [], M)) rfl rfl rfl (fun c_560 => ?_) (fun c_560 => ?_)
  rotate_left
  · exact absurd (by decide) (of_decide_eq_false c_560)
  refine ps_st (S' := (693, [(0, .ref m0), (1, .int (nI pc)), (2, .int 187)], [.int 187], M)) rfl rfl rfl ?_
  refine ps_st (S' := (696, [(0, .ref m0), (1, .int (nI pc)), (2, .int 187)], [.int 186, .int 187], M)) rfl rfl rfl ?_
  refine ps_if2 (S1 := (741, [(0, .ref m0), (1, .int (nI pc)), (2, .int 187)], [], M)) (S2 := (699, [(0, .ref m0), (1, .int (nI pc)), (2, .int 187)], [], M)) rfl rfl rfl (fun c_696 => ?_) (fun c_696 => ?_)
  rotate_left
  · exact absurd (by decide) (of_decide_eq_false c_696)
  refine ps_st (S' := (742, [(0, .ref m0), (1, .int (nI pc)), (2, .int 187)], [.int 187], M)) rfl rfl rfl ?_
  refine ps_st (S' := (745, [(0, .ref m0), (1, .int (nI pc)), (2, .int 187)], [.int 187, .int 187], M)) rfl rfl rfl ?_
  refine ps_if2 (S1 := (776, [(0, .ref m0), (1, .int (nI pc)), (2, .int 187)], [], M)) (S2 := (748, [(0, .ref m0), (1, .int (nI pc)), (2, .int 187)], [], M)) rfl rfl rfl (fun c_745 => ?_) (fun c_745 => ?_)
  rotate_left
  · exact absurd (by decide) (of_decide_eq_false c_745)
  refine ps_st (S' := (777, [(0, .ref m0), (1, .int (nI pc)), (2, .int 187)], [.ref m0], M)) rfl rfl rfl ?_
  refine ps_st (S' := (778, [(0, .ref m0), (1, .int (nI pc)), (2, .int 187)], [.int (nI pc), .ref m0], M)) rfl rfl rfl ?_
  refine ps_st (S' := (779, [(0, .ref m0), (1, .int (nI pc)), (2, .int 187)], [.int 1, .int (nI pc), .ref m0], M)) rfl rfl rfl ?_
  refine ps_st (S' := (780, [(0, .ref m0), (1, .int (nI pc)), (2, .int 187)], [.int ((nI pc) + 1), .ref m0], M)) rfl rfl rfl ?_
  rw [nI_add1 (p := pc) (k := 1) (x := 1) rfl (by omega)]
  show pl _ _ _ (_, [(0, .ref m0), (1, .int (nI pc)), (2, .int 187)], [.int (nI (pc + 1)), .ref m0], M) _
  refine pl_call (a := [.ref m0, .int (nI (pc + 1))]) (rest := []) rfl rfl rfl (rd_b2 (n := n) (f := f) (cb := cb) (p := (pc + 1)) hR hi77 hF (by omega)) (fun v7 M8 q9 => ?_)
  obtain ⟨rfl, rfl⟩ := q9
  show pl _ _ _ (783, [(0, .ref m0), (1, .int (nI pc)), (2, .int 187)], [.int (nI (by2 f (cb + (pc + 1))))], M) _
  show pl _ _ _ (_, [(0, .ref m0), (1, .int (nI pc)), (2, .int 187)], [.int (nI (by2 f (cb + pc + 1)))], M) _
  have hb_780 := by2_lt f (cb + pc + 1)
  refine ps_st (S' := (784, [(3, .int (nI (by2 f (cb + pc + 1)))), (0, .ref m0), (1, .int (nI pc)), (2, .int 187)], [], M)) rfl rfl rfl ?_
  refine ps_st (S' := (785, [(3, .int (nI (by2 f (cb + pc + 1)))), (0, .ref m0), (1, .int (nI pc)), (2, .int 187)], [.ref m0], M)) rfl rfl rfl ?_
  refine ps_st (S' := (786, [(3, .int (nI (by2 f (cb + pc + 1)))), (0, .ref m0), (1, .int (nI pc)), (2, .int 187)], [.int (nI (by2 f (cb + pc + 1))), .ref m0], M)) rfl rfl rfl ?_
  refine pl_call (a := [.ref m0, .int (nI (by2 f (cb + pc + 1)))]) (rest := []) rfl rfl rfl (rd_tag (n := n) (f := f) (tx := tx) (cN := cN) (A := A) (N := N) (mj := mj) (E := E) (k := (by2 f (cb + pc + 1))) hR hi51 hi52 hi53 hF hY hP (hEP) (hN) (hmj) (by2_lt _ _)) (fun v10 M11 q12 => ?_)
  obtain ⟨rfl, rfl⟩ := q12
  show pl _ _ _ (789, [(3, .int (nI (by2 f (cb + pc + 1)))), (0, .ref m0), (1, .int (nI pc)), (2, .int 187)], [.int (nI (tg f E (by2 f (cb + pc + 1))))], M) _
  have htg_786 := tg_lt f E (by2 f (cb + pc + 1))
  refine ps_st (S' := (791, [(3, .int (nI (by2 f (cb + pc + 1)))), (0, .ref m0), (1, .int (nI pc)), (2, .int 187)], [.int 7, .int (nI (tg f E (by2 f (cb + pc + 1))))], M)) rfl rfl rfl ?_
  refine ps_if2 (S1 := (796, [(3, .int (nI (by2 f (cb + pc + 1)))), (0, .ref m0), (1, .int (nI pc)), (2, .int 187)], [], M)) (S2 := (794, [(3, .int (nI (by2 f (cb + pc + 1)))), (0, .ref m0), (1, .int (nI pc)), (2, .int 187)], [], M)) rfl rfl rfl (fun c_791 => ?_) (fun c_791 => ?_)
  · have c_791 : (nI (tg f E (by2 f (cb + pc + 1)))) = 7 := of_decide_eq_true c_791
    have n_791 : tg f E (by2 f (cb + pc + 1)) = 7 := (eq_nI (p := tg f E (by2 f (cb + pc + 1))) (n := 7) (Nat.lt_trans (tg_lt _ _ _) (by decide)) (by decide)).mp c_791
    refine ps_st (S' := (797, [(3, .int (nI (by2 f (cb + pc + 1)))), (0, .ref m0), (1, .int (nI pc)), (2, .int 187)], [.ref m0], M)) rfl rfl rfl ?_
    refine ps_st (S' := (798, [(3, .int (nI (by2 f (cb + pc + 1)))), (0, .ref m0), (1, .int (nI pc)), (2, .int 187)], [.int (nI (by2 f (cb + pc + 1))), .ref m0], M)) rfl rfl rfl ?_
    refine pl_call (a := [.ref m0, .int (nI (by2 f (cb + pc + 1)))]) (rest := []) rfl rfl rfl (rd_className (n := n) (f := f) (tx := tx) (cN := cN) (A := A) (N := N) (mj := mj) (E := E) (k := (by2 f (cb + pc + 1))) hR hi51 hi52 hi53 hF hY hP (hEP) (hN) (hmj) (⟨by omega, (hCP _ (by omega)).1⟩)) (fun v13 M14 q15 => ?_)
    obtain ⟨s16, q798_s, rfl, rfl⟩ := q15
    show pl _ _ _ (801, [(3, .int (nI (by2 f (cb + pc + 1)))), (0, .ref m0), (1, .int (nI pc)), (2, .int 187)], [.int (nI s16)], M) _
    have hsl_798 := q798_s.1
    have htl_798 := hY.1.2.2.1
    refine ps_st (S' := (803, [(4, .int (nI s16)), (3, .int (nI (by2 f (cb + pc + 1)))), (0, .ref m0), (1, .int (nI pc)), (2, .int 187)], [], M)) rfl rfl rfl ?_
    refine ps_st (S' := (804, [(4, .int (nI s16)), (3, .int (nI (by2 f (cb + pc + 1)))), (0, .ref m0), (1, .int (nI pc)), (2, .int 187)], [.int 0], M)) rfl rfl rfl ?_
    refine ps_st (S' := (806, [(0, .ref m0), (1, .int (nI pc)), (2, .int 187), (4, .int (nI s16)), (5, .int 0)], [], M)) rfl rfl rfl ?_
    exact (LL kf) (s16) (0)  (q798_s) (Nat.zero_le _) (fun i9 h9 => absurd h9 (Nat.not_lt_zero _)) (by omega)
  · have c_791 : ¬ ((nI (tg f E (by2 f (cb + pc + 1)))) = 7) := of_decide_eq_false c_791
    have n_791 : ¬ (tg f E (by2 f (cb + pc + 1)) = 7) := fun h9 => c_791 ((eq_nI (p := tg f E (by2 f (cb + pc + 1))) (n := 7) (Nat.lt_trans (tg_lt _ _ _) (by decide)) (by decide)).mpr h9)
    refine ps_st (S' := (795, [(3, .int (nI (by2 f (cb + pc + 1)))), (0, .ref m0), (1, .int (nI pc)), (2, .int 187)], [.int 0], M)) rfl rfl rfl ?_
    exact ps_ret rfl rfl (⟨congrArg (fun x => some (Value.int (nI x))) (show 0 = plnN f n E (by2 f (cb + pc + 1)) from by
        unfold plnN
        first | ((repeat first | rw [if_pos (by omega)] | rw [if_neg (by omega)]) <;> first | rfl | omega) | ((repeat' split) <;> first | rfl | (exfalso; omega) | omega)), rfl⟩)
set_option maxHeartbeats 1000000 in
theorem rd_op189 {g : xe_G} {m0 : Nat} {q : Nat → Nat} {z : Nat × Nat} {I : rI} {R : rR} {M : mi_H} {n : Nat} {f : Nat → Int32} {tx : List (List Nat)} {cN : Nat} {A : Nat → Nat} {N mj : Nat} {E : List (Nat × Nat)} {cb ml s9 pc : Nat} (hR : RS g m0 q z I R M) (hi51 : I 51 = some 0) (hi52 : I 52 = some (nI N)) (hi53 : I 53 = some (nI mj)) (hi77 : I 77 = some (nI cb)) (hi79 : I 79 = some (nI ml)) (hi9 : I 9 = some (nI s9)) (hF : FK n f I R) (hY : SYT tx cN A I R) (hP : RPV f n E tx N I R) (hEP : EP f n E) (hN : N < 65536) (hmj : mj < 65536) (hml : ml < 65536) (hs9 : s9 < tx.length ∧ tx.getD s9 [] = ltx 14) (hCP : CP f n E) (hPF : PF f n E) (hin : cb + pc + 3 ≤ n) : pt (mT g) 228 [.ref m0, .int (nI pc), .int 189] M (fun v M' => (v = some (.int (nI (if tg f E (by2 f (cb + pc + 1)) = 7 ∧ dmN (tX f n E (fi f E (by2 f (cb + pc + 1)))) < 255 then 1 else 0))) ∧ M = M')) := by
  refine pt_in (b := mb_228 g) rfl (fun kf => ?_)
  show pl (mT g) kf (mb_228 g).2 (0, [(0, .ref m0), (1, .int (nI pc)), (2, .int 189)], [], M) _
  have hn := hF.1
  have htl := hY.1.2.2.1
  have LL : ∀ (kf : Nat), (∀ (s d : Nat), (s < tx.length ∧ tx.getD s [] = (tX f n E (fi f E (by2 f (cb + pc + 1))))) → (d ≤ (tX f n E (fi f E (by2 f (cb + pc + 1)))).length) → (∀ i9, i9 < d → (tX f n E (fi f E (by2 f (cb + pc + 1)))).getD i9 0 = 91) → (tg f E (by2 f (cb + pc + 1)) = 7) →  pl (mT g) kf (mb_228 g).2 (806, [(0, .ref m0), (1, .int (nI pc)), (2, .int 189), (4, .int (nI s)), (5, .int (nI d))], [], M) (fun v M' => (v = some (.int (nI (if tg f E (by2 f (cb + pc + 1)) = 7 ∧ dmN (tX f n E (fi f E (by2 f (cb + pc + 1)))) < 255 then 1 else 0))) ∧ M = M'))) := by
    intro kf
    induction kf with
    | zero => exact (by intros; exact pl_0)
    | succ kf ih =>
      intro s d hs hd hb ht7
      have hcp := hCP _ ht7
      have hlx := tx_len f n E (fi f E (by2 f (cb + pc + 1)))
      refine ps_st1 (S' := (808, [(0, .ref m0), (1, .int (nI pc)), (2, .int 189), (4, .int (nI s)), (5, .int (nI d))], [.int (nI d)], M)) rfl rfl rfl ?_
      refine ps_st (S' := (809, [(0, .ref m0), (1, .int (nI pc)), (2, .int 189), (4, .int (nI s)), (5, .int (nI d))], [.ref m0, .int (nI d)], M)) rfl rfl rfl ?_
      refine ps_st (S' := (811, [(0, .ref m0), (1, .int (nI pc)), (2, .int 189), (4, .int (nI s)), (5, .int (nI d))], [.int (nI s), .ref m0, .int (nI d)], M)) rfl rfl rfl ?_
      refine pl_call (a := [.ref m0, .int (nI s)]) (rest := [.int (nI d)]) rfl rfl rfl (rd_length (tx := tx) (cN := cN) (A := A) (s := s) (l := (tX f n E (fi f E (by2 f (cb + pc + 1))))) hR hY (hs)) (fun v1 M2 q3 => ?_)
      obtain ⟨rfl, rfl⟩ := q3
      show pl _ _ _ (814, [(0, .ref m0), (1, .int (nI pc)), (2, .int 189), (4, .int (nI s)), (5, .int (nI d))], [.int (nI ((tX f n E (fi f E (by2 f (cb + pc + 1)))).length)), .int (nI d)], M) _
      refine ps_if2 (S1 := (836, [(0, .ref m0), (1, .int (nI pc)), (2, .int 189), (5, .int (nI d))], [], M)) (S2 := (817, [(0, .ref m0), (1, .int (nI pc)), (2, .int 189), (4, .int (nI s)), (5, .int (nI d))], [], M)) rfl rfl rfl (fun c_814 => ?_) (fun c_814 => ?_)
      · have c_814 : (nI ((tX f n E (fi f E (by2 f (cb + pc + 1)))).length)) ≤ (nI d) := of_decide_eq_true c_814
        have n_814 : (tX f n E (fi f E (by2 f (cb + pc + 1)))).length ≤ d := (le_nI (p := (tX f n E (fi f E (by2 f (cb + pc + 1)))).length) (n := d) (by omega) (by omega)).mp c_814
        refine ps_st (S' := (837, [(0, .ref m0), (1, .int (nI pc)), (2, .int 189), (5, .int (nI d))], [.int 189], M)) rfl rfl rfl ?_
        refine ps_st (S' := (840, [(0, .ref m0), (1, .int (nI pc)), (2, .int 189), (5, .int (nI d))], [.int 187, .int 189], M)) rfl rfl rfl ?_
        refine ps_if2 (S1 := (854, [(0, .ref m0), (1, .int (nI pc)), (2, .int 189), (5, .int (nI d))], [], M)) (S2 := (843, [(0, .ref m0), (1, .int (nI pc)), (2, .int 189), (5, .int (nI d))], [], M)) rfl rfl rfl (fun c_840 => ?_) (fun c_840 => ?_)
        rotate_left
        · exact absurd (by decide) (of_decide_eq_false c_840)
        refine ps_st (S' := (855, [(0, .ref m0), (1, .int (nI pc)), (2, .int 189), (5, .int (nI d))], [.int 189], M)) rfl rfl rfl ?_
        refine ps_st (S' := (858, [(0, .ref m0), (1, .int (nI pc)), (2, .int 189), (5, .int (nI d))], [.int 189, .int 189], M)) rfl rfl rfl ?_
        refine ps_if2 (S1 := (875, [(0, .ref m0), (1, .int (nI pc)), (2, .int 189), (5, .int (nI d))], [], M)) (S2 := (861, [(0, .ref m0), (1, .int (nI pc)), (2, .int 189), (5, .int (nI d))], [], M)) rfl rfl rfl (fun c_858 => ?_) (fun c_858 => ?_)
        · exact absurd (of_decide_eq_true c_858) (by decide)
        refine ps_st (S' := (863, [(0, .ref m0), (1, .int (nI pc)), (2, .int 189), (5, .int (nI d))], [.int (nI d)], M)) rfl rfl rfl ?_
        refine ps_st (S' := (866, [(0, .ref m0), (1, .int (nI pc)), (2, .int 189), (5, .int (nI d))], [.int 255, .int (nI d)], M)) rfl rfl rfl ?_
        refine ps_if2 (S1 := (873, [(0, .ref m0), (1, .int (nI pc)), (2, .int 189), (5, .int (nI d))], [], M)) (S2 := (869, [(0, .ref m0), (1, .int (nI pc)), (2, .int 189), (5, .int (nI d))], [], M)) rfl rfl rfl (fun c_866 => ?_) (fun c_866 => ?_)
        · have c_866 : 255 ≤ (nI d) := of_decide_eq_true c_866
          have n_866 : 255 ≤ d := (le_nI (p := 255) (n := d) (by decide) (by omega)).mp c_866
          refine ps_st (S' := (874, [], [.int 0], M)) rfl rfl rfl ?_
          exact ps_ret rfl rfl (⟨congrArg (fun x => some (Value.int (nI x))) (show 0 = if tg f E (by2 f (cb + pc + 1)) = 7 ∧ dmN (tX f n E (fi f E (by2 f (cb + pc + 1)))) < 255 then 1 else 0 from by
              have hdm : dmN (tX f n E (fi f E (by2 f (cb + pc + 1)))) = d := dm_of hd hb (Or.inl (by omega))
              have hd0 := dm_0 hcp.2
              first | ((repeat first | rw [if_pos (by omega)] | rw [if_neg (by omega)]) <;> first | rfl | omega) | ((repeat' split) <;> first | rfl | (exfalso; omega) | omega)), rfl⟩)
        · have c_866 : ¬ (255 ≤ (nI d)) := of_decide_eq_false c_866
          have n_866 : ¬ (255 ≤ d) := fun h9 => c_866 ((le_nI (p := 255) (n := d) (by decide) (by omega)).mpr h9)
          refine ps_st (S' := (870, [(0, .ref m0), (1, .int (nI pc)), (2, .int 189), (5, .int (nI d))], [.int 1], M)) rfl rfl rfl ?_
          refine ps_st (S' := (874, [], [.int 1], M)) rfl rfl rfl ?_
          exact ps_ret rfl rfl (⟨congrArg (fun x => some (Value.int (nI x))) (show 1 = if tg f E (by2 f (cb + pc + 1)) = 7 ∧ dmN (tX f n E (fi f E (by2 f (cb + pc + 1)))) < 255 then 1 else 0 from by
              have hdm : dmN (tX f n E (fi f E (by2 f (cb + pc + 1)))) = d := dm_of hd hb (Or.inl (by omega))
              have hd0 := dm_0 hcp.2
              first | ((repeat first | rw [if_pos (by omega)] | rw [if_neg (by omega)]) <;> first | rfl | omega) | ((repeat' split) <;> first | rfl | (exfalso; omega) | omega)), rfl⟩)
      · have c_814 : ¬ ((nI ((tX f n E (fi f E (by2 f (cb + pc + 1)))).length)) ≤ (nI d)) := of_decide_eq_false c_814
        have n_814 : ¬ ((tX f n E (fi f E (by2 f (cb + pc + 1)))).length ≤ d) := fun h9 => c_814 ((le_nI (p := (tX f n E (fi f E (by2 f (cb + pc + 1)))).length) (n := d) (by omega) (by omega)).mpr h9)
        refine ps_st (S' := (818, [(0, .ref m0), (1, .int (nI pc)), (2, .int 189), (4, .int (nI s)), (5, .int (nI d))], [.ref m0], M)) rfl rfl rfl ?_
        refine ps_st (S' := (820, [(0, .ref m0), (1, .int (nI pc)), (2, .int 189), (4, .int (nI s)), (5, .int (nI d))], [.int (nI s), .ref m0], M)) rfl rfl rfl ?_
        refine ps_st (S' := (822, [(0, .ref m0), (1, .int (nI pc)), (2, .int 189), (4, .int (nI s)), (5, .int (nI d))], [.int (nI d), .int (nI s), .ref m0], M)) rfl rfl rfl ?_
        refine pl_call (a := [.ref m0, .int (nI s), .int (nI d)]) (rest := []) rfl rfl rfl (rd_at (tx := tx) (cN := cN) (A := A) (s := s) (l := (tX f n E (fi f E (by2 f (cb + pc + 1))))) (k := d) hR hY (hs) (by omega)) (fun v4 M5 q6 => ?_)
        obtain ⟨rfl, rfl⟩ := q6
        show pl _ _ _ (825, [(0, .ref m0), (1, .int (nI pc)), (2, .int 189), (4, .int (nI s)), (5, .int (nI d))], [.int (nI ((tX f n E (fi f E (by2 f (cb + pc + 1)))).getD d 0))], M) _
        have hc_822 := hY.ch hs (k := d) (by omega)
        refine ps_st (S' := (827, [(0, .ref m0), (1, .int (nI pc)), (2, .int 189), (4, .int (nI s)), (5, .int (nI d))], [.int 91, .int (nI ((tX f n E (fi f E (by2 f (cb + pc + 1)))).getD d 0))], M)) rfl rfl rfl ?_
        refine ps_if2 (S1 := (836, [(0, .ref m0), (1, .int (nI pc)), (2, .int 189), (5, .int (nI d))], [], M)) (S2 := (830, [(0, .ref m0), (1, .int (nI pc)), (2, .int 189), (4, .int (nI s)), (5, .int (nI d))], [], M)) rfl rfl rfl (fun c_827 => ?_) (fun c_827 => ?_)
        · have c_827 : ¬ (nI ((tX f n E (fi f E (by2 f (cb + pc + 1)))).getD d 0)) = 91 := of_decide_eq_true c_827
          have n_827 : ¬ ((tX f n E (fi f E (by2 f (cb + pc + 1)))).getD d 0 = 91) := fun h9 => c_827 ((eq_nI (p := (tX f n E (fi f E (by2 f (cb + pc + 1)))).getD d 0) (n := 91) (Nat.lt_trans (tx_ch _ _ _ _ _) (by decide)) (by decide)).mpr h9)
          refine ps_st (S' := (837, [(0, .ref m0), (1, .int (nI pc)), (2, .int 189), (5, .int (nI d))], [.int 189], M)) rfl rfl rfl ?_
          refine ps_st (S' := (840, [(0, .ref m0), (1, .int (nI pc)), (2, .int 189), (5, .int (nI d))], [.int 187, .int 189], M)) rfl rfl rfl ?_
          refine ps_if2 (S1 := (854, [(0, .ref m0), (1, .int (nI pc)), (2, .int 189), (5, .int (nI d))], [], M)) (S2 := (843, [(0, .ref m0), (1, .int (nI pc)), (2, .int 189), (5, .int (nI d))], [], M)) rfl rfl rfl (fun c_840 => ?_) (fun c_840 => ?_)
          rotate_left
          · exact absurd (by decide) (of_decide_eq_false c_840)
          refine ps_st (S' := (855, [(0, .ref m0), (1, .int (nI pc)), (2, .int 189), (5, .int (nI d))], [.int 189], M)) rfl rfl rfl ?_
          refine ps_st (S' := (858, [(0, .ref m0), (1, .int (nI pc)), (2, .int 189), (5, .int (nI d))], [.int 189, .int 189], M)) rfl rfl rfl ?_
          refine ps_if2 (S1 := (875, [(0, .ref m0), (1, .int (nI pc)), (2, .int 189), (5, .int (nI d))], [], M)) (S2 := (861, [(0, .ref m0), (1, .int (nI pc)), (2, .int 189), (5, .int (nI d))], [], M)) rfl rfl rfl (fun c_858 => ?_) (fun c_858 => ?_)
          · exact absurd (of_decide_eq_true c_858) (by decide)
          refine ps_st (S' := (863, [(0, .ref m0), (1, .int (nI pc)), (2, .int 189), (5, .int (nI d))], [.int (nI d)], M)) rfl rfl rfl ?_
          refine ps_st (S' := (866, [(0, .ref m0), (1, .int (nI pc)), (2, .int 189), (5, .int (nI d))], [.int 255, .int (nI d)], M)) rfl rfl rfl ?_
          refine ps_if2 (S1 := (873, [(0, .ref m0), (1, .int (nI pc)), (2, .int 189), (5, .int (nI d))], [], M)) (S2 := (869, [(0, .ref m0), (1, .int (nI pc)), (2, .int 189), (5, .int (nI d))], [], M)) rfl rfl rfl (fun c_866 => ?_) (fun c_866 => ?_)
          · have c_866 : 255 ≤ (nI d) := of_decide_eq_true c_866
            have n_866 : 255 ≤ d := (le_nI (p := 255) (n := d) (by decide) (by omega)).mp c_866
            refine ps_st (S' := (874, [], [.int 0], M)) rfl rfl rfl ?_
            exact ps_ret rfl rfl (⟨congrArg (fun x => some (Value.int (nI x))) (show 0 = if tg f E (by2 f (cb + pc + 1)) = 7 ∧ dmN (tX f n E (fi f E (by2 f (cb + pc + 1)))) < 255 then 1 else 0 from by
                have hdm : dmN (tX f n E (fi f E (by2 f (cb + pc + 1)))) = d := dm_of hd hb (Or.inr (by omega))
                have hd0 := dm_0 hcp.2
                first | ((repeat first | rw [if_pos (by omega)] | rw [if_neg (by omega)]) <;> first | rfl | omega) | ((repeat' split) <;> first | rfl | (exfalso; omega) | omega)), rfl⟩)
          · have c_866 : ¬ (255 ≤ (nI d)) := of_decide_eq_false c_866
            have n_866 : ¬ (255 ≤ d) := fun h9 => c_866 ((le_nI (p := 255) (n := d) (by decide) (by omega)).mpr h9)
            refine ps_st (S' := (870, [(0, .ref m0), (1, .int (nI pc)), (2, .int 189), (5, .int (nI d))], [.int 1], M)) rfl rfl rfl ?_
            refine ps_st (S' := (874, [], [.int 1], M)) rfl rfl rfl ?_
            exact ps_ret rfl rfl (⟨congrArg (fun x => some (Value.int (nI x))) (show 1 = if tg f E (by2 f (cb + pc + 1)) = 7 ∧ dmN (tX f n E (fi f E (by2 f (cb + pc + 1)))) < 255 then 1 else 0 from by
                have hdm : dmN (tX f n E (fi f E (by2 f (cb + pc + 1)))) = d := dm_of hd hb (Or.inr (by omega))
                have hd0 := dm_0 hcp.2
                first | ((repeat first | rw [if_pos (by omega)] | rw [if_neg (by omega)]) <;> first | rfl | omega) | ((repeat' split) <;> first | rfl | (exfalso; omega) | omega)), rfl⟩)
        · have c_827 : ¬ (¬ (nI ((tX f n E (fi f E (by2 f (cb + pc + 1)))).getD d 0)) = 91) := of_decide_eq_false c_827
          have n_827 : (tX f n E (fi f E (by2 f (cb + pc + 1)))).getD d 0 = 91 := (eq_nI (p := (tX f n E (fi f E (by2 f (cb + pc + 1)))).getD d 0) (n := 91) (Nat.lt_trans (tx_ch _ _ _ _ _) (by decide)) (by decide)).mp (Decidable.not_not.mp c_827)
          refine ps_st (S' := (833, [(5, .int ((nI d) + 1)), (0, .ref m0), (1, .int (nI pc)), (2, .int 189), (4, .int (nI s))], [], M)) rfl rfl rfl ?_
          rw [nI_add1 (p := d) (k := 1) (x := 1) rfl (by omega)]
          show pl _ _ _ (_, [(5, .int (nI (d + 1))), (0, .ref m0), (1, .int (nI pc)), (2, .int 189), (4, .int (nI s))], [], M) _
          refine ps_st (S' := (806, [(0, .ref m0), (1, .int (nI pc)), (2, .int 189), (4, .int (nI s)), (5, .int (nI (d + 1)))], [], M)) rfl rfl rfl ?_
          exact ih (s) (d + 1)  (hs) (by omega) (fun i9 h9 => (by by_cases e9 : i9 = d; rw [e9]; omega; exact hb i9 (by omega))) (ht7)
  refine ps_st (S' := (1, [(0, .ref m0), (1, .int (nI pc)), (2, .int 189)], [.int 189], M)) rfl rfl rfl ?_
  refine ps_st (S' := (4, [(0, .ref m0), (1, .int (nI pc)), (2, .int 189)], [.int 168, .int 189], M)) rfl rfl rfl ?_
  refine ps_if2 (S1 := (21, [(0, .ref m0), (1, .int (nI pc)), (2, .int 189)], [], M)) (S2 := (7, [(0, .ref m0), (1, .int (nI pc)), (2, .int 189)], [], M)) rfl rfl rfl (fun c_4 => ?_) (fun c_4 => ?_)
  · exact absurd (of_decide_eq_true c_4) (by decide)
  refine ps_st (S' := (8, [(0, .ref m0), (1, .int (nI pc)), (2, .int 189)], [.int 189], M)) rfl rfl rfl ?_
  refine ps_st (S' := (11, [(0, .ref m0), (1, .int (nI pc)), (2, .int 189)], [.int 169, .int 189], M)) rfl rfl rfl ?_
  refine ps_if2 (S1 := (21, [(0, .ref m0), (1, .int (nI pc)), (2, .int 189)], [], M)) (S2 := (14, [(0, .ref m0), (1, .int (nI pc)), (2, .int 189)], [], M)) rfl rfl rfl (fun c_11 => ?_) (fun c_11 => ?_)
  · exact absurd (of_decide_eq_true c_11) (by decide)
  refine ps_st (S' := (15, [(0, .ref m0), (1, .int (nI pc)), (2, .int 189)], [.int 189], M)) rfl rfl rfl ?_
  refine ps_st (S' := (18, [(0, .ref m0), (1, .int (nI pc)), (2, .int 189)], [.int 201, .int 189], M)) rfl rfl rfl ?_
  refine ps_if2 (S1 := (58, [(0, .ref m0), (1, .int (nI pc)), (2, .int 189)], [], M)) (S2 := (21, [(0, .ref m0), (1, .int (nI pc)), (2, .int 189)], [], M)) rfl rfl rfl (fun c_18 => ?_) (fun c_18 => ?_)
  rotate_left
  · exact absurd (by decide) (of_decide_eq_false c_18)
  refine ps_st (S' := (59, [(0, .ref m0), (1, .int (nI pc)), (2, .int 189)], [.int 189], M)) rfl rfl rfl ?_
  refine ps_st (S' := (61, [(0, .ref m0), (1, .int (nI pc)), (2, .int 189)], [.int 21, .int 189], M)) rfl rfl rfl ?_
  refine ps_if2 (S1 := (70, [(0, .ref m0), (1, .int (nI pc)), (2, .int 189)], [], M)) (S2 := (64, [(0, .ref m0), (1, .int (nI pc)), (2, .int 189)], [], M)) rfl rfl rfl (fun c_61 => ?_) (fun c_61 => ?_)
  · exact absurd (of_decide_eq_true c_61) (by decide)
  refine ps_st (S' := (65, [(0, .ref m0), (1, .int (nI pc)), (2, .int 189)], [.int 189], M)) rfl rfl rfl ?_
  refine ps_st (S' := (67, [(0, .ref m0), (1, .int (nI pc)), (2, .int 189)], [.int 25, .int 189], M)) rfl rfl rfl ?_
  refine ps_if2 (S1 := (82, [(0, .ref m0), (1, .int (nI pc)), (2, .int 189)], [], M)) (S2 := (70, [(0, .ref m0), (1, .int (nI pc)), (2, .int 189)], [], M)) rfl rfl rfl (fun c_67 => ?_) (fun c_67 => ?_)
  · exact absurd (of_decide_eq_true c_67) (by decide)
  refine ps_st (S' := (71, [(0, .ref m0), (1, .int (nI pc)), (2, .int 189)], [.int 189], M)) rfl rfl rfl ?_
  refine ps_st (S' := (73, [(0, .ref m0), (1, .int (nI pc)), (2, .int 189)], [.int 54, .int 189], M)) rfl rfl rfl ?_
  refine ps_if2 (S1 := (127, [(0, .ref m0), (1, .int (nI pc)), (2, .int 189)], [], M)) (S2 := (76, [(0, .ref m0), (1, .int (nI pc)), (2, .int 189)], [], M)) rfl rfl rfl (fun c_73 => ?_) (fun c_73 => ?_)
  · exact absurd (of_decide_eq_true c_73) (by decide)
  refine ps_st (S' := (77, [(0, .ref m0), (1, .int (nI pc)), (2, .int 189)], [.int 189], M)) rfl rfl rfl ?_
  refine ps_st (S' := (79, [(0, .ref m0), (1, .int (nI pc)), (2, .int 189)], [.int 58, .int 189], M)) rfl rfl rfl ?_
  refine ps_if2 (S1 := (127, [(0, .ref m0), (1, .int (nI pc)), (2, .int 189)], [], M)) (S2 := (82, [(0, .ref m0), (1, .int (nI pc)), (2, .int 189)], [], M)) rfl rfl rfl (fun c_79 => ?_) (fun c_79 => ?_)
  rotate_left
  · exact absurd (by decide) (of_decide_eq_false c_79)
  refine ps_st (S' := (128, [(0, .ref m0), (1, .int (nI pc)), (2, .int 189)], [.int 189], M)) rfl rfl rfl ?_
  refine ps_st (S' := (130, [(0, .ref m0), (1, .int (nI pc)), (2, .int 189)], [.int 26, .int 189], M)) rfl rfl rfl ?_
  refine ps_if2 (S1 := (139, [(0, .ref m0), (1, .int (nI pc)), (2, .int 189)], [], M)) (S2 := (133, [(0, .ref m0), (1, .int (nI pc)), (2, .int 189)], [], M)) rfl rfl rfl (fun c_130 => ?_) (fun c_130 => ?_)
  · exact absurd (of_decide_eq_true c_130) (by decide)
  refine ps_st (S' := (134, [(0, .ref m0), (1, .int (nI pc)), (2, .int 189)], [.int 189], M)) rfl rfl rfl ?_
  refine ps_st (S' := (136, [(0, .ref m0), (1, .int (nI pc)), (2, .int 189)], [.int 45, .int 189], M)) rfl rfl rfl ?_
  refine ps_if2 (S1 := (151, [(0, .ref m0), (2, .int 189)], [], M)) (S2 := (139, [(0, .ref m0), (1, .int (nI pc)), (2, .int 189)], [], M)) rfl rfl rfl (fun c_136 => ?_) (fun c_136 => ?_)
  · exact absurd (of_decide_eq_true c_136) (by decide)
  refine ps_st (S' := (140, [(0, .ref m0), (1, .int (nI pc)), (2, .int 189)], [.int 189], M)) rfl rfl rfl ?_
  refine ps_st (S' := (142, [(0, .ref m0), (1, .int (nI pc)), (2, .int 189)], [.int 59, .int 189], M)) rfl rfl rfl ?_
  refine ps_if2 (S1 := (196, [(0, .ref m0), (1, .int (nI pc)), (2, .int 189)], [], M)) (S2 := (145, [(0, .ref m0), (1, .int (nI pc)), (2, .int 189)], [], M)) rfl rfl rfl (fun c_142 => ?_) (fun c_142 => ?_)
  · exact absurd (of_decide_eq_true c_142) (by decide)
  refine ps_st (S' := (146, [(0, .ref m0), (1, .int (nI pc)), (2, .int 189)], [.int 189], M)) rfl rfl rfl ?_
  refine ps_st (S' := (148, [(0, .ref m0), (1, .int (nI pc)), (2, .int 189)], [.int 78, .int 189], M)) rfl rfl rfl ?_
  refine ps_if2 (S1 := (196, [(0, .ref m0), (1, .int (nI pc)), (2, .int 189)], [], M)) (S2 := (151, [(0, .ref m0), (2, .int 189)], [], M)) rfl rfl rfl (fun c_148 => ?_) (fun c_148 => ?_)
  rotate_left
  · exact absurd (by decide) (of_decide_eq_false c_148)
  refine ps_st (S' := (197, [(0, .ref m0), (1, .int (nI pc)), (2, .int 189)], [.int 189], M)) rfl rfl rfl ?_
  refine ps_st (S' := (200, [(0, .ref m0), (1, .int (nI pc)), (2, .int 189)], [.int 132, .int 189], M)) rfl rfl rfl ?_
  refine ps_if2 (S1 := (216, [(0, .ref m0), (1, .int (nI pc)), (2, .int 189)], [], M)) (S2 := (203, [(0, .ref m0), (1, .int (nI pc)), (2, .int 189)], [], M)) rfl rfl rfl (fun c_200 => ?_) (fun c_200 => ?_)
  rotate_left
  · exact absurd (by decide) (of_decide_eq_false c_200)
  refine ps_st (S' := (217, [(0, .ref m0), (1, .int (nI pc)), (2, .int 189)], [.int 189], M)) rfl rfl rfl ?_
  refine ps_st (S' := (220, [(0, .ref m0), (1, .int (nI pc)), (2, .int 189)], [.int 196, .int 189], M)) rfl rfl rfl ?_
  refine ps_if2 (S1 := (296, [(0, .ref m0), (1, .int (nI pc)), (2, .int 189)], [], M)) (S2 := (223, [(0, .ref m0), (1, .int (nI pc)), (2, .int 189)], [], M)) rfl rfl rfl (fun c_220 => ?_) (fun c_220 => ?_)
  rotate_left
  · exact absurd (by decide) (of_decide_eq_false c_220)
  refine ps_st (S' := (297, [(0, .ref m0), (1, .int (nI pc)), (2, .int 189)], [.int 189], M)) rfl rfl rfl ?_
  refine ps_st (S' := (300, [(0, .ref m0), (1, .int (nI pc)), (2, .int 189)], [.int 188, .int 189], M)) rfl rfl rfl ?_
  refine ps_if2 (S1 := (332, [(0, .ref m0), (1, .int (nI pc)), (2, .int 189)], [], M)) (S2 := (303, [(0, .ref m0), (1, .int (nI pc)), (2, .int 189)], [], M)) rfl rfl rfl (fun c_300 => ?_) (fun c_300 => ?_)
  rotate_left
  · exact absurd (by decide) (of_decide_eq_false c_300)
  refine ps_st (S' := (333, [(0, .ref m0), (1, .int (nI pc)), (2, .int 189)], [.int 189], M)) rfl rfl rfl ?_
  refine ps_st (S' := (335, [(0, .ref m0), (1, .int (nI pc)), (2, .int 189)], [.int 18, .int 189], M)) rfl rfl rfl ?_
  refine ps_if2 (S1 := (513, [(0, .ref m0), (1, .int (nI pc)), (2, .int 189)], [], M)) (S2 := (338, [(0, .ref m0), (1, .int (nI pc)), (2, .int 189)], [], M)) rfl rfl rfl (fun c_335 => ?_) (fun c_335 => ?_)
  · exact absurd (of_decide_eq_true c_335) (by decide)
  refine ps_st (S' := (339, [(0, .ref m0), (1, .int (nI pc)), (2, .int 189)], [.int 189], M)) rfl rfl rfl ?_
  refine ps_st (S' := (341, [(0, .ref m0), (1, .int (nI pc)), (2, .int 189)], [.int 20, .int 189], M)) rfl rfl rfl ?_
  refine ps_if2 (S1 := (513, [(0, .ref m0), (1, .int (nI pc)), (2, .int 189)], [], M)) (S2 := (344, [(0, .ref m0), (1, .int (nI pc)), (2, .int 189)], [], M)) rfl rfl rfl (fun c_341 => ?_) (fun c_341 => ?_)
  rotate_left
  · exact absurd (by decide) (of_decide_eq_false c_341)
  refine ps_st (S' := (514, [(0, .ref m0), (1, .int (nI pc)), (2, .int 189)], [.int 189], M)) rfl rfl rfl ?_
  refine ps_st (S' := (517, [(0, .ref m0), (1, .int (nI pc)), (2, .int 189)], [.int 178, .int 189], M)) rfl rfl rfl ?_
  refine ps_if2 (S1 := (549, [(0, .ref m0), (1, .int (nI pc)), (2, .int 189)], [], M)) (S2 := (520, [(0, .ref m0), (1, .int (nI pc)), (2, .int 189)], [], M)) rfl rfl rfl (fun c_517 => ?_) (fun c_517 => ?_)
  · exact absurd (of_decide_eq_true c_517) (by decide)
  refine ps_st (S' := (521, [(0, .ref m0), (1, .int (nI pc)), (2, .int 189)], [.int 189], M)) rfl rfl rfl ?_
  refine ps_st (S' := (524, [(0, .ref m0), (1, .int (nI pc)), (2, .int 189)], [.int 181, .int 189], M)) rfl rfl rfl ?_
  refine ps_if2 (S1 := (549, [(0, .ref m0), (1, .int (nI pc)), (2, .int 189)], [], M)) (S2 := (527, [(0, .ref m0), (1, .int (nI pc)), (2, .int 189)], [], M)) rfl rfl rfl (fun c_524 => ?_) (fun c_524 => ?_)
  rotate_left
  · exact absurd (by decide) (of_decide_eq_false c_524)
  refine ps_st (S' := (550, [(0, .ref m0), (1, .int (nI pc)), (2, .int 189)], [.int 189], M)) rfl rfl rfl ?_
  refine ps_st (S' := (553, [(0, .ref m0), (1, .int (nI pc)), (2, .int 189)], [.int 182, .int 189], M)) rfl rfl rfl ?_
  refine ps_if2 (S1 := (692, [(0, .ref m0), (1, .int (nI pc)), (2, .int 189)], [], M)) (S2 := (556, [(0, .ref m0), (1, .int (nI pc)), (2, .int 189)], [], M)) rfl rfl rfl (fun c_553 => ?_) (fun c_553 => ?_)
  · exact absurd (of_decide_eq_true c_553) (by decide)
  refine ps_st (S' := (557, [(0, .ref m0), (1, .int (nI pc)), (2, .int 189)], [.int 189], M)) rfl rfl rfl ?_
  refine ps_st (S' := (560, [(0, .ref m0), (1, .int (nI pc)), (2, .int 189)], [.int 185, .int 189], M)) rfl rfl rfl ?_
  refine ps_if2 (S1 := (692, [(0, .ref m0), (1, .int (nI pc)), (2, .int 189)], [], M)) (S2 := (563, [(0, .ref m0), (1, .int (nI pc)), (2, .int 189)], [], M)) rfl rfl rfl (fun c_560 => ?_) (fun c_560 => ?_)
  rotate_left
  · exact absurd (by decide) (of_decide_eq_false c_560)
  refine ps_st (S' := (693, [(0, .ref m0), (1, .int (nI pc)), (2, .int 189)], [.int 189], M)) rfl rfl rfl ?_
  refine ps_st (S' := (696, [(0, .ref m0), (1, .int (nI pc)), (2, .int 189)], [.int 186, .int 189], M)) rfl rfl rfl ?_
  refine ps_if2 (S1 := (741, [(0, .ref m0), (1, .int (nI pc)), (2, .int 189)], [], M)) (S2 := (699, [(0, .ref m0), (1, .int (nI pc)), (2, .int 189)], [], M)) rfl rfl rfl (fun c_696 => ?_) (fun c_696 => ?_)
  rotate_left
  · exact absurd (by decide) (of_decide_eq_false c_696)
  refine ps_st (S' := (742, [(0, .ref m0), (1, .int (nI pc)), (2, .int 189)], [.int 189], M)) rfl rfl rfl ?_
  refine ps_st (S' := (745, [(0, .ref m0), (1, .int (nI pc)), (2, .int 189)], [.int 187, .int 189], M)) rfl rfl rfl ?_
  refine ps_if2 (S1 := (776, [(0, .ref m0), (1, .int (nI pc)), (2, .int 189)], [], M)) (S2 := (748, [(0, .ref m0), (1, .int (nI pc)), (2, .int 189)], [], M)) rfl rfl rfl (fun c_745 => ?_) (fun c_745 => ?_)
  · exact absurd (of_decide_eq_true c_745) (by decide)
  refine ps_st (S' := (749, [(0, .ref m0), (1, .int (nI pc)), (2, .int 189)], [.int 189], M)) rfl rfl rfl ?_
  refine ps_st (S' := (752, [(0, .ref m0), (1, .int (nI pc)), (2, .int 189)], [.int 189, .int 189], M)) rfl rfl rfl ?_
  refine ps_if2 (S1 := (776, [(0, .ref m0), (1, .int (nI pc)), (2, .int 189)], [], M)) (S2 := (755, [(0, .ref m0), (1, .int (nI pc)), (2, .int 189)], [], M)) rfl rfl rfl (fun c_752 => ?_) (fun c_752 => ?_)
  rotate_left
  · exact absurd (by decide) (of_decide_eq_false c_752)
  refine ps_st (S' := (777, [(0, .ref m0), (1, .int (nI pc)), (2, .int 189)], [.ref m0], M)) rfl rfl rfl ?_
  refine ps_st (S' := (778, [(0, .ref m0), (1, .int (nI pc)), (2, .int 189)], [.int (nI pc), .ref m0], M)) rfl rfl rfl ?_
  refine ps_st (S' := (779, [(0, .ref m0), (1, .int (nI pc)), (2, .int 189)], [.int 1, .int (nI pc), .ref m0], M)) rfl rfl rfl ?_
  refine ps_st (S' := (780, [(0, .ref m0), (1, .int (nI pc)), (2, .int 189)], [.int ((nI pc) + 1), .ref m0], M)) rfl rfl rfl ?_
  rw [nI_add1 (p := pc) (k := 1) (x := 1) rfl (by omega)]
  show pl _ _ _ (_, [(0, .ref m0), (1, .int (nI pc)), (2, .int 189)], [.int (nI (pc + 1)), .ref m0], M) _
  refine pl_call (a := [.ref m0, .int (nI (pc + 1))]) (rest := []) rfl rfl rfl (rd_b2 (n := n) (f := f) (cb := cb) (p := (pc + 1)) hR hi77 hF (by omega)) (fun v7 M8 q9 => ?_)
  obtain ⟨rfl, rfl⟩ := q9
  show pl _ _ _ (783, [(0, .ref m0), (1, .int (nI pc)), (2, .int 189)], [.int (nI (by2 f (cb + (pc + 1))))], M) _
  show pl _ _ _ (_, [(0, .ref m0), (1, .int (nI pc)), (2, .int 189)], [.int (nI (by2 f (cb + pc + 1)))], M) _
  have hb_780 := by2_lt f (cb + pc + 1)
  refine ps_st (S' := (784, [(3, .int (nI (by2 f (cb + pc + 1)))), (0, .ref m0), (1, .int (nI pc)), (2, .int 189)], [], M)) rfl rfl rfl ?_
  refine ps_st (S' := (785, [(3, .int (nI (by2 f (cb + pc + 1)))), (0, .ref m0), (1, .int (nI pc)), (2, .int 189)], [.ref m0], M)) rfl rfl rfl ?_
  refine ps_st (S' := (786, [(3, .int (nI (by2 f (cb + pc + 1)))), (0, .ref m0), (1, .int (nI pc)), (2, .int 189)], [.int (nI (by2 f (cb + pc + 1))), .ref m0], M)) rfl rfl rfl ?_
  refine pl_call (a := [.ref m0, .int (nI (by2 f (cb + pc + 1)))]) (rest := []) rfl rfl rfl (rd_tag (n := n) (f := f) (tx := tx) (cN := cN) (A := A) (N := N) (mj := mj) (E := E) (k := (by2 f (cb + pc + 1))) hR hi51 hi52 hi53 hF hY hP (hEP) (hN) (hmj) (by2_lt _ _)) (fun v10 M11 q12 => ?_)
  obtain ⟨rfl, rfl⟩ := q12
  show pl _ _ _ (789, [(3, .int (nI (by2 f (cb + pc + 1)))), (0, .ref m0), (1, .int (nI pc)), (2, .int 189)], [.int (nI (tg f E (by2 f (cb + pc + 1))))], M) _
  have htg_786 := tg_lt f E (by2 f (cb + pc + 1))
  refine ps_st (S' := (791, [(3, .int (nI (by2 f (cb + pc + 1)))), (0, .ref m0), (1, .int (nI pc)), (2, .int 189)], [.int 7, .int (nI (tg f E (by2 f (cb + pc + 1))))], M)) rfl rfl rfl ?_
  refine ps_if2 (S1 := (796, [(3, .int (nI (by2 f (cb + pc + 1)))), (0, .ref m0), (1, .int (nI pc)), (2, .int 189)], [], M)) (S2 := (794, [(3, .int (nI (by2 f (cb + pc + 1)))), (0, .ref m0), (1, .int (nI pc)), (2, .int 189)], [], M)) rfl rfl rfl (fun c_791 => ?_) (fun c_791 => ?_)
  · have c_791 : (nI (tg f E (by2 f (cb + pc + 1)))) = 7 := of_decide_eq_true c_791
    have n_791 : tg f E (by2 f (cb + pc + 1)) = 7 := (eq_nI (p := tg f E (by2 f (cb + pc + 1))) (n := 7) (Nat.lt_trans (tg_lt _ _ _) (by decide)) (by decide)).mp c_791
    refine ps_st (S' := (797, [(3, .int (nI (by2 f (cb + pc + 1)))), (0, .ref m0), (1, .int (nI pc)), (2, .int 189)], [.ref m0], M)) rfl rfl rfl ?_
    refine ps_st (S' := (798, [(3, .int (nI (by2 f (cb + pc + 1)))), (0, .ref m0), (1, .int (nI pc)), (2, .int 189)], [.int (nI (by2 f (cb + pc + 1))), .ref m0], M)) rfl rfl rfl ?_
    refine pl_call (a := [.ref m0, .int (nI (by2 f (cb + pc + 1)))]) (rest := []) rfl rfl rfl (rd_className (n := n) (f := f) (tx := tx) (cN := cN) (A := A) (N := N) (mj := mj) (E := E) (k := (by2 f (cb + pc + 1))) hR hi51 hi52 hi53 hF hY hP (hEP) (hN) (hmj) (⟨by omega, (hCP _ (by omega)).1⟩)) (fun v13 M14 q15 => ?_)
    obtain ⟨s16, q798_s, rfl, rfl⟩ := q15
    show pl _ _ _ (801, [(3, .int (nI (by2 f (cb + pc + 1)))), (0, .ref m0), (1, .int (nI pc)), (2, .int 189)], [.int (nI s16)], M) _
    have hsl_798 := q798_s.1
    have htl_798 := hY.1.2.2.1
    refine ps_st (S' := (803, [(4, .int (nI s16)), (3, .int (nI (by2 f (cb + pc + 1)))), (0, .ref m0), (1, .int (nI pc)), (2, .int 189)], [], M)) rfl rfl rfl ?_
    refine ps_st (S' := (804, [(4, .int (nI s16)), (3, .int (nI (by2 f (cb + pc + 1)))), (0, .ref m0), (1, .int (nI pc)), (2, .int 189)], [.int 0], M)) rfl rfl rfl ?_
    refine ps_st (S' := (806, [(0, .ref m0), (1, .int (nI pc)), (2, .int 189), (4, .int (nI s16)), (5, .int 0)], [], M)) rfl rfl rfl ?_
    exact (LL kf) (s16) (0)  (q798_s) (Nat.zero_le _) (fun i9 h9 => absurd h9 (Nat.not_lt_zero _)) (by omega)
  · have c_791 : ¬ ((nI (tg f E (by2 f (cb + pc + 1)))) = 7) := of_decide_eq_false c_791
    have n_791 : ¬ (tg f E (by2 f (cb + pc + 1)) = 7) := fun h9 => c_791 ((eq_nI (p := tg f E (by2 f (cb + pc + 1))) (n := 7) (Nat.lt_trans (tg_lt _ _ _) (by decide)) (by decide)).mpr h9)
    refine ps_st (S' := (795, [(3, .int (nI (by2 f (cb + pc + 1)))), (0, .ref m0), (1, .int (nI pc)), (2, .int 189)], [.int 0], M)) rfl rfl rfl ?_
    exact ps_ret rfl rfl (⟨congrArg (fun x => some (Value.int (nI x))) (show 0 = if tg f E (by2 f (cb + pc + 1)) = 7 ∧ dmN (tX f n E (fi f E (by2 f (cb + pc + 1)))) < 255 then 1 else 0 from by
        first | ((repeat first | rw [if_pos (by omega)] | rw [if_neg (by omega)]) <;> first | rfl | omega) | ((repeat' split) <;> first | rfl | (exfalso; omega) | omega)), rfl⟩)
set_option maxHeartbeats 1000000 in
theorem rd_op192 {g : xe_G} {m0 : Nat} {q : Nat → Nat} {z : Nat × Nat} {I : rI} {R : rR} {M : mi_H} {n : Nat} {f : Nat → Int32} {tx : List (List Nat)} {cN : Nat} {A : Nat → Nat} {N mj : Nat} {E : List (Nat × Nat)} {cb ml s9 pc : Nat} (hR : RS g m0 q z I R M) (hi51 : I 51 = some 0) (hi52 : I 52 = some (nI N)) (hi53 : I 53 = some (nI mj)) (hi77 : I 77 = some (nI cb)) (hi79 : I 79 = some (nI ml)) (hi9 : I 9 = some (nI s9)) (hF : FK n f I R) (hY : SYT tx cN A I R) (hP : RPV f n E tx N I R) (hEP : EP f n E) (hN : N < 65536) (hmj : mj < 65536) (hml : ml < 65536) (hs9 : s9 < tx.length ∧ tx.getD s9 [] = ltx 14) (hCP : CP f n E) (hPF : PF f n E) (hin : cb + pc + 3 ≤ n) : pt (mT g) 228 [.ref m0, .int (nI pc), .int 192] M (fun v M' => (v = some (.int (nI (if tg f E (by2 f (cb + pc + 1)) = 7 then 1 else 0))) ∧ M = M')) := by
  refine pt_in (b := mb_228 g) rfl (fun kf => ?_)
  show pl (mT g) kf (mb_228 g).2 (0, [(0, .ref m0), (1, .int (nI pc)), (2, .int 192)], [], M) _
  have hn := hF.1
  have htl := hY.1.2.2.1
  have LL : ∀ (kf : Nat), (∀ (s d : Nat), (s < tx.length ∧ tx.getD s [] = (tX f n E (fi f E (by2 f (cb + pc + 1))))) → (d ≤ (tX f n E (fi f E (by2 f (cb + pc + 1)))).length) → (∀ i9, i9 < d → (tX f n E (fi f E (by2 f (cb + pc + 1)))).getD i9 0 = 91) → (tg f E (by2 f (cb + pc + 1)) = 7) →  pl (mT g) kf (mb_228 g).2 (806, [(0, .ref m0), (1, .int (nI pc)), (2, .int 192), (4, .int (nI s)), (5, .int (nI d))], [], M) (fun v M' => (v = some (.int (nI (if tg f E (by2 f (cb + pc + 1)) = 7 then 1 else 0))) ∧ M = M'))) := by
    intro kf
    induction kf with
    | zero => exact (by intros; exact pl_0)
    | succ kf ih =>
      intro s d hs hd hb ht7
      have hcp := hCP _ ht7
      have hlx := tx_len f n E (fi f E (by2 f (cb + pc + 1)))
      refine ps_st1 (S' := (808, [(0, .ref m0), (1, .int (nI pc)), (2, .int 192), (4, .int (nI s)), (5, .int (nI d))], [.int (nI d)], M)) rfl rfl rfl ?_
      refine ps_st (S' := (809, [(0, .ref m0), (1, .int (nI pc)), (2, .int 192), (4, .int (nI s)), (5, .int (nI d))], [.ref m0, .int (nI d)], M)) rfl rfl rfl ?_
      refine ps_st (S' := (811, [(0, .ref m0), (1, .int (nI pc)), (2, .int 192), (4, .int (nI s)), (5, .int (nI d))], [.int (nI s), .ref m0, .int (nI d)], M)) rfl rfl rfl ?_
      refine pl_call (a := [.ref m0, .int (nI s)]) (rest := [.int (nI d)]) rfl rfl rfl (rd_length (tx := tx) (cN := cN) (A := A) (s := s) (l := (tX f n E (fi f E (by2 f (cb + pc + 1))))) hR hY (hs)) (fun v1 M2 q3 => ?_)
      obtain ⟨rfl, rfl⟩ := q3
      show pl _ _ _ (814, [(0, .ref m0), (1, .int (nI pc)), (2, .int 192), (4, .int (nI s)), (5, .int (nI d))], [.int (nI ((tX f n E (fi f E (by2 f (cb + pc + 1)))).length)), .int (nI d)], M) _
      refine ps_if2 (S1 := (836, [(0, .ref m0), (1, .int (nI pc)), (2, .int 192), (5, .int (nI d))], [], M)) (S2 := (817, [(0, .ref m0), (1, .int (nI pc)), (2, .int 192), (4, .int (nI s)), (5, .int (nI d))], [], M)) rfl rfl rfl (fun c_814 => ?_) (fun c_814 => ?_)
      · have c_814 : (nI ((tX f n E (fi f E (by2 f (cb + pc + 1)))).length)) ≤ (nI d) := of_decide_eq_true c_814
        have n_814 : (tX f n E (fi f E (by2 f (cb + pc + 1)))).length ≤ d := (le_nI (p := (tX f n E (fi f E (by2 f (cb + pc + 1)))).length) (n := d) (by omega) (by omega)).mp c_814
        refine ps_st (S' := (837, [(0, .ref m0), (1, .int (nI pc)), (2, .int 192), (5, .int (nI d))], [.int 192], M)) rfl rfl rfl ?_
        refine ps_st (S' := (840, [(0, .ref m0), (1, .int (nI pc)), (2, .int 192), (5, .int (nI d))], [.int 187, .int 192], M)) rfl rfl rfl ?_
        refine ps_if2 (S1 := (854, [(0, .ref m0), (1, .int (nI pc)), (2, .int 192), (5, .int (nI d))], [], M)) (S2 := (843, [(0, .ref m0), (1, .int (nI pc)), (2, .int 192), (5, .int (nI d))], [], M)) rfl rfl rfl (fun c_840 => ?_) (fun c_840 => ?_)
        rotate_left
        · exact absurd (by decide) (of_decide_eq_false c_840)
        refine ps_st (S' := (855, [(0, .ref m0), (1, .int (nI pc)), (2, .int 192), (5, .int (nI d))], [.int 192], M)) rfl rfl rfl ?_
        refine ps_st (S' := (858, [(0, .ref m0), (1, .int (nI pc)), (2, .int 192), (5, .int (nI d))], [.int 189, .int 192], M)) rfl rfl rfl ?_
        refine ps_if2 (S1 := (875, [(0, .ref m0), (1, .int (nI pc)), (2, .int 192), (5, .int (nI d))], [], M)) (S2 := (861, [(0, .ref m0), (1, .int (nI pc)), (2, .int 192), (5, .int (nI d))], [], M)) rfl rfl rfl (fun c_858 => ?_) (fun c_858 => ?_)
        rotate_left
        · exact absurd (by decide) (of_decide_eq_false c_858)
        refine ps_st (S' := (876, [(0, .ref m0), (1, .int (nI pc)), (2, .int 192), (5, .int (nI d))], [.int 192], M)) rfl rfl rfl ?_
        refine ps_st (S' := (879, [(0, .ref m0), (1, .int (nI pc)), (2, .int 192), (5, .int (nI d))], [.int 197, .int 192], M)) rfl rfl rfl ?_
        refine ps_if2 (S1 := (905, [], [], M)) (S2 := (882, [(0, .ref m0), (1, .int (nI pc)), (2, .int 192), (5, .int (nI d))], [], M)) rfl rfl rfl (fun c_879 => ?_) (fun c_879 => ?_)
        rotate_left
        · exact absurd (by decide) (of_decide_eq_false c_879)
        refine ps_st (S' := (906, [], [.int 1], M)) rfl rfl rfl ?_
        refine ps_st (S' := (910, [], [.int 1], M)) rfl rfl rfl ?_
        exact ps_ret rfl rfl (⟨congrArg (fun x => some (Value.int (nI x))) (show 1 = if tg f E (by2 f (cb + pc + 1)) = 7 then 1 else 0 from by
            have hdm : dmN (tX f n E (fi f E (by2 f (cb + pc + 1)))) = d := dm_of hd hb (Or.inl (by omega))
            have hd0 := dm_0 hcp.2
            first | ((repeat first | rw [if_pos (by omega)] | rw [if_neg (by omega)]) <;> first | rfl | omega) | ((repeat' split) <;> first | rfl | (exfalso; omega) | omega)), rfl⟩)
      · have c_814 : ¬ ((nI ((tX f n E (fi f E (by2 f (cb + pc + 1)))).length)) ≤ (nI d)) := of_decide_eq_false c_814
        have n_814 : ¬ ((tX f n E (fi f E (by2 f (cb + pc + 1)))).length ≤ d) := fun h9 => c_814 ((le_nI (p := (tX f n E (fi f E (by2 f (cb + pc + 1)))).length) (n := d) (by omega) (by omega)).mpr h9)
        refine ps_st (S' := (818, [(0, .ref m0), (1, .int (nI pc)), (2, .int 192), (4, .int (nI s)), (5, .int (nI d))], [.ref m0], M)) rfl rfl rfl ?_
        refine ps_st (S' := (820, [(0, .ref m0), (1, .int (nI pc)), (2, .int 192), (4, .int (nI s)), (5, .int (nI d))], [.int (nI s), .ref m0], M)) rfl rfl rfl ?_
        refine ps_st (S' := (822, [(0, .ref m0), (1, .int (nI pc)), (2, .int 192), (4, .int (nI s)), (5, .int (nI d))], [.int (nI d), .int (nI s), .ref m0], M)) rfl rfl rfl ?_
        refine pl_call (a := [.ref m0, .int (nI s), .int (nI d)]) (rest := []) rfl rfl rfl (rd_at (tx := tx) (cN := cN) (A := A) (s := s) (l := (tX f n E (fi f E (by2 f (cb + pc + 1))))) (k := d) hR hY (hs) (by omega)) (fun v4 M5 q6 => ?_)
        obtain ⟨rfl, rfl⟩ := q6
        show pl _ _ _ (825, [(0, .ref m0), (1, .int (nI pc)), (2, .int 192), (4, .int (nI s)), (5, .int (nI d))], [.int (nI ((tX f n E (fi f E (by2 f (cb + pc + 1)))).getD d 0))], M) _
        have hc_822 := hY.ch hs (k := d) (by omega)
        refine ps_st (S' := (827, [(0, .ref m0), (1, .int (nI pc)), (2, .int 192), (4, .int (nI s)), (5, .int (nI d))], [.int 91, .int (nI ((tX f n E (fi f E (by2 f (cb + pc + 1)))).getD d 0))], M)) rfl rfl rfl ?_
        refine ps_if2 (S1 := (836, [(0, .ref m0), (1, .int (nI pc)), (2, .int 192), (5, .int (nI d))], [], M)) (S2 := (830, [(0, .ref m0), (1, .int (nI pc)), (2, .int 192), (4, .int (nI s)), (5, .int (nI d))], [], M)) rfl rfl rfl (fun c_827 => ?_) (fun c_827 => ?_)
        · have c_827 : ¬ (nI ((tX f n E (fi f E (by2 f (cb + pc + 1)))).getD d 0)) = 91 := of_decide_eq_true c_827
          have n_827 : ¬ ((tX f n E (fi f E (by2 f (cb + pc + 1)))).getD d 0 = 91) := fun h9 => c_827 ((eq_nI (p := (tX f n E (fi f E (by2 f (cb + pc + 1)))).getD d 0) (n := 91) (Nat.lt_trans (tx_ch _ _ _ _ _) (by decide)) (by decide)).mpr h9)
          refine ps_st (S' := (837, [(0, .ref m0), (1, .int (nI pc)), (2, .int 192), (5, .int (nI d))], [.int 192], M)) rfl rfl rfl ?_
          refine ps_st (S' := (840, [(0, .ref m0), (1, .int (nI pc)), (2, .int 192), (5, .int (nI d))], [.int 187, .int 192], M)) rfl rfl rfl ?_
          refine ps_if2 (S1 := (854, [(0, .ref m0), (1, .int (nI pc)), (2, .int 192), (5, .int (nI d))], [], M)) (S2 := (843, [(0, .ref m0), (1, .int (nI pc)), (2, .int 192), (5, .int (nI d))], [], M)) rfl rfl rfl (fun c_840 => ?_) (fun c_840 => ?_)
          rotate_left
          · exact absurd (by decide) (of_decide_eq_false c_840)
          refine ps_st (S' := (855, [(0, .ref m0), (1, .int (nI pc)), (2, .int 192), (5, .int (nI d))], [.int 192], M)) rfl rfl rfl ?_
          refine ps_st (S' := (858, [(0, .ref m0), (1, .int (nI pc)), (2, .int 192), (5, .int (nI d))], [.int 189, .int 192], M)) rfl rfl rfl ?_
          refine ps_if2 (S1 := (875, [(0, .ref m0), (1, .int (nI pc)), (2, .int 192), (5, .int (nI d))], [], M)) (S2 := (861, [(0, .ref m0), (1, .int (nI pc)), (2, .int 192), (5, .int (nI d))], [], M)) rfl rfl rfl (fun c_858 => ?_) (fun c_858 => ?_)
          rotate_left
          · exact absurd (by decide) (of_decide_eq_false c_858)
          refine ps_st (S' := (876, [(0, .ref m0), (1, .int (nI pc)), (2, .int 192), (5, .int (nI d))], [.int 192], M)) rfl rfl rfl ?_
          refine ps_st (S' := (879, [(0, .ref m0), (1, .int (nI pc)), (2, .int 192), (5, .int (nI d))], [.int 197, .int 192], M)) rfl rfl rfl ?_
          refine ps_if2 (S1 := (905, [], [], M)) (S2 := (882, [(0, .ref m0), (1, .int (nI pc)), (2, .int 192), (5, .int (nI d))], [], M)) rfl rfl rfl (fun c_879 => ?_) (fun c_879 => ?_)
          rotate_left
          · exact absurd (by decide) (of_decide_eq_false c_879)
          refine ps_st (S' := (906, [], [.int 1], M)) rfl rfl rfl ?_
          refine ps_st (S' := (910, [], [.int 1], M)) rfl rfl rfl ?_
          exact ps_ret rfl rfl (⟨congrArg (fun x => some (Value.int (nI x))) (show 1 = if tg f E (by2 f (cb + pc + 1)) = 7 then 1 else 0 from by
              have hdm : dmN (tX f n E (fi f E (by2 f (cb + pc + 1)))) = d := dm_of hd hb (Or.inr (by omega))
              have hd0 := dm_0 hcp.2
              first | ((repeat first | rw [if_pos (by omega)] | rw [if_neg (by omega)]) <;> first | rfl | omega) | ((repeat' split) <;> first | rfl | (exfalso; omega) | omega)), rfl⟩)
        · have c_827 : ¬ (¬ (nI ((tX f n E (fi f E (by2 f (cb + pc + 1)))).getD d 0)) = 91) := of_decide_eq_false c_827
          have n_827 : (tX f n E (fi f E (by2 f (cb + pc + 1)))).getD d 0 = 91 := (eq_nI (p := (tX f n E (fi f E (by2 f (cb + pc + 1)))).getD d 0) (n := 91) (Nat.lt_trans (tx_ch _ _ _ _ _) (by decide)) (by decide)).mp (Decidable.not_not.mp c_827)
          refine ps_st (S' := (833, [(5, .int ((nI d) + 1)), (0, .ref m0), (1, .int (nI pc)), (2, .int 192), (4, .int (nI s))], [], M)) rfl rfl rfl ?_
          rw [nI_add1 (p := d) (k := 1) (x := 1) rfl (by omega)]
          show pl _ _ _ (_, [(5, .int (nI (d + 1))), (0, .ref m0), (1, .int (nI pc)), (2, .int 192), (4, .int (nI s))], [], M) _
          refine ps_st (S' := (806, [(0, .ref m0), (1, .int (nI pc)), (2, .int 192), (4, .int (nI s)), (5, .int (nI (d + 1)))], [], M)) rfl rfl rfl ?_
          exact ih (s) (d + 1)  (hs) (by omega) (fun i9 h9 => (by by_cases e9 : i9 = d; rw [e9]; omega; exact hb i9 (by omega))) (ht7)
  refine ps_st (S' := (1, [(0, .ref m0), (1, .int (nI pc)), (2, .int 192)], [.int 192], M)) rfl rfl rfl ?_
  refine ps_st (S' := (4, [(0, .ref m0), (1, .int (nI pc)), (2, .int 192)], [.int 168, .int 192], M)) rfl rfl rfl ?_
  refine ps_if2 (S1 := (21, [(0, .ref m0), (1, .int (nI pc)), (2, .int 192)], [], M)) (S2 := (7, [(0, .ref m0), (1, .int (nI pc)), (2, .int 192)], [], M)) rfl rfl rfl (fun c_4 => ?_) (fun c_4 => ?_)
  · exact absurd (of_decide_eq_true c_4) (by decide)
  refine ps_st (S' := (8, [(0, .ref m0), (1, .int (nI pc)), (2, .int 192)], [.int 192], M)) rfl rfl rfl ?_
  refine ps_st (S' := (11, [(0, .ref m0), (1, .int (nI pc)), (2, .int 192)], [.int 169, .int 192], M)) rfl rfl rfl ?_
  refine ps_if2 (S1 := (21, [(0, .ref m0), (1, .int (nI pc)), (2, .int 192)], [], M)) (S2 := (14, [(0, .ref m0), (1, .int (nI pc)), (2, .int 192)], [], M)) rfl rfl rfl (fun c_11 => ?_) (fun c_11 => ?_)
  · exact absurd (of_decide_eq_true c_11) (by decide)
  refine ps_st (S' := (15, [(0, .ref m0), (1, .int (nI pc)), (2, .int 192)], [.int 192], M)) rfl rfl rfl ?_
  refine ps_st (S' := (18, [(0, .ref m0), (1, .int (nI pc)), (2, .int 192)], [.int 201, .int 192], M)) rfl rfl rfl ?_
  refine ps_if2 (S1 := (58, [(0, .ref m0), (1, .int (nI pc)), (2, .int 192)], [], M)) (S2 := (21, [(0, .ref m0), (1, .int (nI pc)), (2, .int 192)], [], M)) rfl rfl rfl (fun c_18 => ?_) (fun c_18 => ?_)
  rotate_left
  · exact absurd (by decide) (of_decide_eq_false c_18)
  refine ps_st (S' := (59, [(0, .ref m0), (1, .int (nI pc)), (2, .int 192)], [.int 192], M)) rfl rfl rfl ?_
  refine ps_st (S' := (61, [(0, .ref m0), (1, .int (nI pc)), (2, .int 192)], [.int 21, .int 192], M)) rfl rfl rfl ?_
  refine ps_if2 (S1 := (70, [(0, .ref m0), (1, .int (nI pc)), (2, .int 192)], [], M)) (S2 := (64, [(0, .ref m0), (1, .int (nI pc)), (2, .int 192)], [], M)) rfl rfl rfl (fun c_61 => ?_) (fun c_61 => ?_)
  · exact absurd (of_decide_eq_true c_61) (by decide)
  refine ps_st (S' := (65, [(0, .ref m0), (1, .int (nI pc)), (2, .int 192)], [.int 192], M)) rfl rfl rfl ?_
  refine ps_st (S' := (67, [(0, .ref m0), (1, .int (nI pc)), (2, .int 192)], [.int 25, .int 192], M)) rfl rfl rfl ?_
  refine ps_if2 (S1 := (82, [(0, .ref m0), (1, .int (nI pc)), (2, .int 192)], [], M)) (S2 := (70, [(0, .ref m0), (1, .int (nI pc)), (2, .int 192)], [], M)) rfl rfl rfl (fun c_67 => ?_) (fun c_67 => ?_)
  · exact absurd (of_decide_eq_true c_67) (by decide)
  refine ps_st (S' := (71, [(0, .ref m0), (1, .int (nI pc)), (2, .int 192)], [.int 192], M)) rfl rfl rfl ?_
  refine ps_st (S' := (73, [(0, .ref m0), (1, .int (nI pc)), (2, .int 192)], [.int 54, .int 192], M)) rfl rfl rfl ?_
  refine ps_if2 (S1 := (127, [(0, .ref m0), (1, .int (nI pc)), (2, .int 192)], [], M)) (S2 := (76, [(0, .ref m0), (1, .int (nI pc)), (2, .int 192)], [], M)) rfl rfl rfl (fun c_73 => ?_) (fun c_73 => ?_)
  · exact absurd (of_decide_eq_true c_73) (by decide)
  refine ps_st (S' := (77, [(0, .ref m0), (1, .int (nI pc)), (2, .int 192)], [.int 192], M)) rfl rfl rfl ?_
  refine ps_st (S' := (79, [(0, .ref m0), (1, .int (nI pc)), (2, .int 192)], [.int 58, .int 192], M)) rfl rfl rfl ?_
  refine ps_if2 (S1 := (127, [(0, .ref m0), (1, .int (nI pc)), (2, .int 192)], [], M)) (S2 := (82, [(0, .ref m0), (1, .int (nI pc)), (2, .int 192)], [], M)) rfl rfl rfl (fun c_79 => ?_) (fun c_79 => ?_)
  rotate_left
  · exact absurd (by decide) (of_decide_eq_false c_79)
  refine ps_st (S' := (128, [(0, .ref m0), (1, .int (nI pc)), (2, .int 192)], [.int 192], M)) rfl rfl rfl ?_
  refine ps_st (S' := (130, [(0, .ref m0), (1, .int (nI pc)), (2, .int 192)], [.int 26, .int 192], M)) rfl rfl rfl ?_
  refine ps_if2 (S1 := (139, [(0, .ref m0), (1, .int (nI pc)), (2, .int 192)], [], M)) (S2 := (133, [(0, .ref m0), (1, .int (nI pc)), (2, .int 192)], [], M)) rfl rfl rfl (fun c_130 => ?_) (fun c_130 => ?_)
  · exact absurd (of_decide_eq_true c_130) (by decide)
  refine ps_st (S' := (134, [(0, .ref m0), (1, .int (nI pc)), (2, .int 192)], [.int 192], M)) rfl rfl rfl ?_
  refine ps_st (S' := (136, [(0, .ref m0), (1, .int (nI pc)), (2, .int 192)], [.int 45, .int 192], M)) rfl rfl rfl ?_
  refine ps_if2 (S1 := (151, [(0, .ref m0), (2, .int 192)], [], M)) (S2 := (139, [(0, .ref m0), (1, .int (nI pc)), (2, .int 192)], [], M)) rfl rfl rfl (fun c_136 => ?_) (fun c_136 => ?_)
  · exact absurd (of_decide_eq_true c_136) (by decide)
  refine ps_st (S' := (140, [(0, .ref m0), (1, .int (nI pc)), (2, .int 192)], [.int 192], M)) rfl rfl rfl ?_
  refine ps_st (S' := (142, [(0, .ref m0), (1, .int (nI pc)), (2, .int 192)], [.int 59, .int 192], M)) rfl rfl rfl ?_
  refine ps_if2 (S1 := (196, [(0, .ref m0), (1, .int (nI pc)), (2, .int 192)], [], M)) (S2 := (145, [(0, .ref m0), (1, .int (nI pc)), (2, .int 192)], [], M)) rfl rfl rfl (fun c_142 => ?_) (fun c_142 => ?_)
  · exact absurd (of_decide_eq_true c_142) (by decide)
  refine ps_st (S' := (146, [(0, .ref m0), (1, .int (nI pc)), (2, .int 192)], [.int 192], M)) rfl rfl rfl ?_
  refine ps_st (S' := (148, [(0, .ref m0), (1, .int (nI pc)), (2, .int 192)], [.int 78, .int 192], M)) rfl rfl rfl ?_
  refine ps_if2 (S1 := (196, [(0, .ref m0), (1, .int (nI pc)), (2, .int 192)], [], M)) (S2 := (151, [(0, .ref m0), (2, .int 192)], [], M)) rfl rfl rfl (fun c_148 => ?_) (fun c_148 => ?_)
  rotate_left
  · exact absurd (by decide) (of_decide_eq_false c_148)
  refine ps_st (S' := (197, [(0, .ref m0), (1, .int (nI pc)), (2, .int 192)], [.int 192], M)) rfl rfl rfl ?_
  refine ps_st (S' := (200, [(0, .ref m0), (1, .int (nI pc)), (2, .int 192)], [.int 132, .int 192], M)) rfl rfl rfl ?_
  refine ps_if2 (S1 := (216, [(0, .ref m0), (1, .int (nI pc)), (2, .int 192)], [], M)) (S2 := (203, [(0, .ref m0), (1, .int (nI pc)), (2, .int 192)], [], M)) rfl rfl rfl (fun c_200 => ?_) (fun c_200 => ?_)
  rotate_left
  · exact absurd (by decide) (of_decide_eq_false c_200)
  refine ps_st (S' := (217, [(0, .ref m0), (1, .int (nI pc)), (2, .int 192)], [.int 192], M)) rfl rfl rfl ?_
  refine ps_st (S' := (220, [(0, .ref m0), (1, .int (nI pc)), (2, .int 192)], [.int 196, .int 192], M)) rfl rfl rfl ?_
  refine ps_if2 (S1 := (296, [(0, .ref m0), (1, .int (nI pc)), (2, .int 192)], [], M)) (S2 := (223, [(0, .ref m0), (1, .int (nI pc)), (2, .int 192)], [], M)) rfl rfl rfl (fun c_220 => ?_) (fun c_220 => ?_)
  rotate_left
  · exact absurd (by decide) (of_decide_eq_false c_220)
  refine ps_st (S' := (297, [(0, .ref m0), (1, .int (nI pc)), (2, .int 192)], [.int 192], M)) rfl rfl rfl ?_
  refine ps_st (S' := (300, [(0, .ref m0), (1, .int (nI pc)), (2, .int 192)], [.int 188, .int 192], M)) rfl rfl rfl ?_
  refine ps_if2 (S1 := (332, [(0, .ref m0), (1, .int (nI pc)), (2, .int 192)], [], M)) (S2 := (303, [(0, .ref m0), (1, .int (nI pc)), (2, .int 192)], [], M)) rfl rfl rfl (fun c_300 => ?_) (fun c_300 => ?_)
  rotate_left
  · exact absurd (by decide) (of_decide_eq_false c_300)
  refine ps_st (S' := (333, [(0, .ref m0), (1, .int (nI pc)), (2, .int 192)], [.int 192], M)) rfl rfl rfl ?_
  refine ps_st (S' := (335, [(0, .ref m0), (1, .int (nI pc)), (2, .int 192)], [.int 18, .int 192], M)) rfl rfl rfl ?_
  refine ps_if2 (S1 := (513, [(0, .ref m0), (1, .int (nI pc)), (2, .int 192)], [], M)) (S2 := (338, [(0, .ref m0), (1, .int (nI pc)), (2, .int 192)], [], M)) rfl rfl rfl (fun c_335 => ?_) (fun c_335 => ?_)
  · exact absurd (of_decide_eq_true c_335) (by decide)
  refine ps_st (S' := (339, [(0, .ref m0), (1, .int (nI pc)), (2, .int 192)], [.int 192], M)) rfl rfl rfl ?_
  refine ps_st (S' := (341, [(0, .ref m0), (1, .int (nI pc)), (2, .int 192)], [.int 20, .int 192], M)) rfl rfl rfl ?_
  refine ps_if2 (S1 := (513, [(0, .ref m0), (1, .int (nI pc)), (2, .int 192)], [], M)) (S2 := (344, [(0, .ref m0), (1, .int (nI pc)), (2, .int 192)], [], M)) rfl rfl rfl (fun c_341 => ?_) (fun c_341 => ?_)
  rotate_left
  · exact absurd (by decide) (of_decide_eq_false c_341)
  refine ps_st (S' := (514, [(0, .ref m0), (1, .int (nI pc)), (2, .int 192)], [.int 192], M)) rfl rfl rfl ?_
  refine ps_st (S' := (517, [(0, .ref m0), (1, .int (nI pc)), (2, .int 192)], [.int 178, .int 192], M)) rfl rfl rfl ?_
  refine ps_if2 (S1 := (549, [(0, .ref m0), (1, .int (nI pc)), (2, .int 192)], [], M)) (S2 := (520, [(0, .ref m0), (1, .int (nI pc)), (2, .int 192)], [], M)) rfl rfl rfl (fun c_517 => ?_) (fun c_517 => ?_)
  · exact absurd (of_decide_eq_true c_517) (by decide)
  refine ps_st (S' := (521, [(0, .ref m0), (1, .int (nI pc)), (2, .int 192)], [.int 192], M)) rfl rfl rfl ?_
  refine ps_st (S' := (524, [(0, .ref m0), (1, .int (nI pc)), (2, .int 192)], [.int 181, .int 192], M)) rfl rfl rfl ?_
  refine ps_if2 (S1 := (549, [(0, .ref m0), (1, .int (nI pc)), (2, .int 192)], [], M)) (S2 := (527, [(0, .ref m0), (1, .int (nI pc)), (2, .int 192)], [], M)) rfl rfl rfl (fun c_524 => ?_) (fun c_524 => ?_)
  rotate_left
  · exact absurd (by decide) (of_decide_eq_false c_524)
  refine ps_st (S' := (550, [(0, .ref m0), (1, .int (nI pc)), (2, .int 192)], [.int 192], M)) rfl rfl rfl ?_
  refine ps_st (S' := (553, [(0, .ref m0), (1, .int (nI pc)), (2, .int 192)], [.int 182, .int 192], M)) rfl rfl rfl ?_
  refine ps_if2 (S1 := (692, [(0, .ref m0), (1, .int (nI pc)), (2, .int 192)], [], M)) (S2 := (556, [(0, .ref m0), (1, .int (nI pc)), (2, .int 192)], [], M)) rfl rfl rfl (fun c_553 => ?_) (fun c_553 => ?_)
  · exact absurd (of_decide_eq_true c_553) (by decide)
  refine ps_st (S' := (557, [(0, .ref m0), (1, .int (nI pc)), (2, .int 192)], [.int 192], M)) rfl rfl rfl ?_
  refine ps_st (S' := (560, [(0, .ref m0), (1, .int (nI pc)), (2, .int 192)], [.int 185, .int 192], M)) rfl rfl rfl ?_
  refine ps_if2 (S1 := (692, [(0, .ref m0), (1, .int (nI pc)), (2, .int 192)], [], M)) (S2 := (563, [(0, .ref m0), (1, .int (nI pc)), (2, .int 192)], [], M)) rfl rfl rfl (fun c_560 => ?_) (fun c_560 => ?_)
  rotate_left
  · exact absurd (by decide) (of_decide_eq_false c_560)
  refine ps_st (S' := (693, [(0, .ref m0), (1, .int (nI pc)), (2, .int 192)], [.int 192], M)) rfl rfl rfl ?_
  refine ps_st (S' := (696, [(0, .ref m0), (1, .int (nI pc)), (2, .int 192)], [.int 186, .int 192], M)) rfl rfl rfl ?_
  refine ps_if2 (S1 := (741, [(0, .ref m0), (1, .int (nI pc)), (2, .int 192)], [], M)) (S2 := (699, [(0, .ref m0), (1, .int (nI pc)), (2, .int 192)], [], M)) rfl rfl rfl (fun c_696 => ?_) (fun c_696 => ?_)
  rotate_left
  · exact absurd (by decide) (of_decide_eq_false c_696)
  refine ps_st (S' := (742, [(0, .ref m0), (1, .int (nI pc)), (2, .int 192)], [.int 192], M)) rfl rfl rfl ?_
  refine ps_st (S' := (745, [(0, .ref m0), (1, .int (nI pc)), (2, .int 192)], [.int 187, .int 192], M)) rfl rfl rfl ?_
  refine ps_if2 (S1 := (776, [(0, .ref m0), (1, .int (nI pc)), (2, .int 192)], [], M)) (S2 := (748, [(0, .ref m0), (1, .int (nI pc)), (2, .int 192)], [], M)) rfl rfl rfl (fun c_745 => ?_) (fun c_745 => ?_)
  · exact absurd (of_decide_eq_true c_745) (by decide)
  refine ps_st (S' := (749, [(0, .ref m0), (1, .int (nI pc)), (2, .int 192)], [.int 192], M)) rfl rfl rfl ?_
  refine ps_st (S' := (752, [(0, .ref m0), (1, .int (nI pc)), (2, .int 192)], [.int 189, .int 192], M)) rfl rfl rfl ?_
  refine ps_if2 (S1 := (776, [(0, .ref m0), (1, .int (nI pc)), (2, .int 192)], [], M)) (S2 := (755, [(0, .ref m0), (1, .int (nI pc)), (2, .int 192)], [], M)) rfl rfl rfl (fun c_752 => ?_) (fun c_752 => ?_)
  · exact absurd (of_decide_eq_true c_752) (by decide)
  refine ps_st (S' := (756, [(0, .ref m0), (1, .int (nI pc)), (2, .int 192)], [.int 192], M)) rfl rfl rfl ?_
  refine ps_st (S' := (759, [(0, .ref m0), (1, .int (nI pc)), (2, .int 192)], [.int 192, .int 192], M)) rfl rfl rfl ?_
  refine ps_if2 (S1 := (776, [(0, .ref m0), (1, .int (nI pc)), (2, .int 192)], [], M)) (S2 := (762, [(0, .ref m0), (1, .int (nI pc)), (2, .int 192)], [], M)) rfl rfl rfl (fun c_759 => ?_) (fun c_759 => ?_)
  rotate_left
  · exact absurd (by decide) (of_decide_eq_false c_759)
  refine ps_st (S' := (777, [(0, .ref m0), (1, .int (nI pc)), (2, .int 192)], [.ref m0], M)) rfl rfl rfl ?_
  refine ps_st (S' := (778, [(0, .ref m0), (1, .int (nI pc)), (2, .int 192)], [.int (nI pc), .ref m0], M)) rfl rfl rfl ?_
  refine ps_st (S' := (779, [(0, .ref m0), (1, .int (nI pc)), (2, .int 192)], [.int 1, .int (nI pc), .ref m0], M)) rfl rfl rfl ?_
  refine ps_st (S' := (780, [(0, .ref m0), (1, .int (nI pc)), (2, .int 192)], [.int ((nI pc) + 1), .ref m0], M)) rfl rfl rfl ?_
  rw [nI_add1 (p := pc) (k := 1) (x := 1) rfl (by omega)]
  show pl _ _ _ (_, [(0, .ref m0), (1, .int (nI pc)), (2, .int 192)], [.int (nI (pc + 1)), .ref m0], M) _
  refine pl_call (a := [.ref m0, .int (nI (pc + 1))]) (rest := []) rfl rfl rfl (rd_b2 (n := n) (f := f) (cb := cb) (p := (pc + 1)) hR hi77 hF (by omega)) (fun v7 M8 q9 => ?_)
  obtain ⟨rfl, rfl⟩ := q9
  show pl _ _ _ (783, [(0, .ref m0), (1, .int (nI pc)), (2, .int 192)], [.int (nI (by2 f (cb + (pc + 1))))], M) _
  show pl _ _ _ (_, [(0, .ref m0), (1, .int (nI pc)), (2, .int 192)], [.int (nI (by2 f (cb + pc + 1)))], M) _
  have hb_780 := by2_lt f (cb + pc + 1)
  refine ps_st (S' := (784, [(3, .int (nI (by2 f (cb + pc + 1)))), (0, .ref m0), (1, .int (nI pc)), (2, .int 192)], [], M)) rfl rfl rfl ?_
  refine ps_st (S' := (785, [(3, .int (nI (by2 f (cb + pc + 1)))), (0, .ref m0), (1, .int (nI pc)), (2, .int 192)], [.ref m0], M)) rfl rfl rfl ?_
  refine ps_st (S' := (786, [(3, .int (nI (by2 f (cb + pc + 1)))), (0, .ref m0), (1, .int (nI pc)), (2, .int 192)], [.int (nI (by2 f (cb + pc + 1))), .ref m0], M)) rfl rfl rfl ?_
  refine pl_call (a := [.ref m0, .int (nI (by2 f (cb + pc + 1)))]) (rest := []) rfl rfl rfl (rd_tag (n := n) (f := f) (tx := tx) (cN := cN) (A := A) (N := N) (mj := mj) (E := E) (k := (by2 f (cb + pc + 1))) hR hi51 hi52 hi53 hF hY hP (hEP) (hN) (hmj) (by2_lt _ _)) (fun v10 M11 q12 => ?_)
  obtain ⟨rfl, rfl⟩ := q12
  show pl _ _ _ (789, [(3, .int (nI (by2 f (cb + pc + 1)))), (0, .ref m0), (1, .int (nI pc)), (2, .int 192)], [.int (nI (tg f E (by2 f (cb + pc + 1))))], M) _
  have htg_786 := tg_lt f E (by2 f (cb + pc + 1))
  refine ps_st (S' := (791, [(3, .int (nI (by2 f (cb + pc + 1)))), (0, .ref m0), (1, .int (nI pc)), (2, .int 192)], [.int 7, .int (nI (tg f E (by2 f (cb + pc + 1))))], M)) rfl rfl rfl ?_
  refine ps_if2 (S1 := (796, [(3, .int (nI (by2 f (cb + pc + 1)))), (0, .ref m0), (1, .int (nI pc)), (2, .int 192)], [], M)) (S2 := (794, [(3, .int (nI (by2 f (cb + pc + 1)))), (0, .ref m0), (1, .int (nI pc)), (2, .int 192)], [], M)) rfl rfl rfl (fun c_791 => ?_) (fun c_791 => ?_)
  · have c_791 : (nI (tg f E (by2 f (cb + pc + 1)))) = 7 := of_decide_eq_true c_791
    have n_791 : tg f E (by2 f (cb + pc + 1)) = 7 := (eq_nI (p := tg f E (by2 f (cb + pc + 1))) (n := 7) (Nat.lt_trans (tg_lt _ _ _) (by decide)) (by decide)).mp c_791
    refine ps_st (S' := (797, [(3, .int (nI (by2 f (cb + pc + 1)))), (0, .ref m0), (1, .int (nI pc)), (2, .int 192)], [.ref m0], M)) rfl rfl rfl ?_
    refine ps_st (S' := (798, [(3, .int (nI (by2 f (cb + pc + 1)))), (0, .ref m0), (1, .int (nI pc)), (2, .int 192)], [.int (nI (by2 f (cb + pc + 1))), .ref m0], M)) rfl rfl rfl ?_
    refine pl_call (a := [.ref m0, .int (nI (by2 f (cb + pc + 1)))]) (rest := []) rfl rfl rfl (rd_className (n := n) (f := f) (tx := tx) (cN := cN) (A := A) (N := N) (mj := mj) (E := E) (k := (by2 f (cb + pc + 1))) hR hi51 hi52 hi53 hF hY hP (hEP) (hN) (hmj) (⟨by omega, (hCP _ (by omega)).1⟩)) (fun v13 M14 q15 => ?_)
    obtain ⟨s16, q798_s, rfl, rfl⟩ := q15
    show pl _ _ _ (801, [(3, .int (nI (by2 f (cb + pc + 1)))), (0, .ref m0), (1, .int (nI pc)), (2, .int 192)], [.int (nI s16)], M) _
    have hsl_798 := q798_s.1
    have htl_798 := hY.1.2.2.1
    refine ps_st (S' := (803, [(4, .int (nI s16)), (3, .int (nI (by2 f (cb + pc + 1)))), (0, .ref m0), (1, .int (nI pc)), (2, .int 192)], [], M)) rfl rfl rfl ?_
    refine ps_st (S' := (804, [(4, .int (nI s16)), (3, .int (nI (by2 f (cb + pc + 1)))), (0, .ref m0), (1, .int (nI pc)), (2, .int 192)], [.int 0], M)) rfl rfl rfl ?_
    refine ps_st (S' := (806, [(0, .ref m0), (1, .int (nI pc)), (2, .int 192), (4, .int (nI s16)), (5, .int 0)], [], M)) rfl rfl rfl ?_
    exact (LL kf) (s16) (0)  (q798_s) (Nat.zero_le _) (fun i9 h9 => absurd h9 (Nat.not_lt_zero _)) (by omega)
  · have c_791 : ¬ ((nI (tg f E (by2 f (cb + pc + 1)))) = 7) := of_decide_eq_false c_791
    have n_791 : ¬ (tg f E (by2 f (cb + pc + 1)) = 7) := fun h9 => c_791 ((eq_nI (p := tg f E (by2 f (cb + pc + 1))) (n := 7) (Nat.lt_trans (tg_lt _ _ _) (by decide)) (by decide)).mpr h9)
    refine ps_st (S' := (795, [(3, .int (nI (by2 f (cb + pc + 1)))), (0, .ref m0), (1, .int (nI pc)), (2, .int 192)], [.int 0], M)) rfl rfl rfl ?_
    exact ps_ret rfl rfl (⟨congrArg (fun x => some (Value.int (nI x))) (show 0 = if tg f E (by2 f (cb + pc + 1)) = 7 then 1 else 0 from by
        first | ((repeat first | rw [if_pos (by omega)] | rw [if_neg (by omega)]) <;> first | rfl | omega) | ((repeat' split) <;> first | rfl | (exfalso; omega) | omega)), rfl⟩)
set_option maxHeartbeats 1000000 in
theorem rd_op193 {g : xe_G} {m0 : Nat} {q : Nat → Nat} {z : Nat × Nat} {I : rI} {R : rR} {M : mi_H} {n : Nat} {f : Nat → Int32} {tx : List (List Nat)} {cN : Nat} {A : Nat → Nat} {N mj : Nat} {E : List (Nat × Nat)} {cb ml s9 pc : Nat} (hR : RS g m0 q z I R M) (hi51 : I 51 = some 0) (hi52 : I 52 = some (nI N)) (hi53 : I 53 = some (nI mj)) (hi77 : I 77 = some (nI cb)) (hi79 : I 79 = some (nI ml)) (hi9 : I 9 = some (nI s9)) (hF : FK n f I R) (hY : SYT tx cN A I R) (hP : RPV f n E tx N I R) (hEP : EP f n E) (hN : N < 65536) (hmj : mj < 65536) (hml : ml < 65536) (hs9 : s9 < tx.length ∧ tx.getD s9 [] = ltx 14) (hCP : CP f n E) (hPF : PF f n E) (hin : cb + pc + 3 ≤ n) : pt (mT g) 228 [.ref m0, .int (nI pc), .int 193] M (fun v M' => (v = some (.int (nI (if tg f E (by2 f (cb + pc + 1)) = 7 then 1 else 0))) ∧ M = M')) := by
  refine pt_in (b := mb_228 g) rfl (fun kf => ?_)
  show pl (mT g) kf (mb_228 g).2 (0, [(0, .ref m0), (1, .int (nI pc)), (2, .int 193)], [], M) _
  have hn := hF.1
  have htl := hY.1.2.2.1
  have LL : ∀ (kf : Nat), (∀ (s d : Nat), (s < tx.length ∧ tx.getD s [] = (tX f n E (fi f E (by2 f (cb + pc + 1))))) → (d ≤ (tX f n E (fi f E (by2 f (cb + pc + 1)))).length) → (∀ i9, i9 < d → (tX f n E (fi f E (by2 f (cb + pc + 1)))).getD i9 0 = 91) → (tg f E (by2 f (cb + pc + 1)) = 7) →  pl (mT g) kf (mb_228 g).2 (806, [(0, .ref m0), (1, .int (nI pc)), (2, .int 193), (4, .int (nI s)), (5, .int (nI d))], [], M) (fun v M' => (v = some (.int (nI (if tg f E (by2 f (cb + pc + 1)) = 7 then 1 else 0))) ∧ M = M'))) := by
    intro kf
    induction kf with
    | zero => exact (by intros; exact pl_0)
    | succ kf ih =>
      intro s d hs hd hb ht7
      have hcp := hCP _ ht7
      have hlx := tx_len f n E (fi f E (by2 f (cb + pc + 1)))
      refine ps_st1 (S' := (808, [(0, .ref m0), (1, .int (nI pc)), (2, .int 193), (4, .int (nI s)), (5, .int (nI d))], [.int (nI d)], M)) rfl rfl rfl ?_
      refine ps_st (S' := (809, [(0, .ref m0), (1, .int (nI pc)), (2, .int 193), (4, .int (nI s)), (5, .int (nI d))], [.ref m0, .int (nI d)], M)) rfl rfl rfl ?_
      refine ps_st (S' := (811, [(0, .ref m0), (1, .int (nI pc)), (2, .int 193), (4, .int (nI s)), (5, .int (nI d))], [.int (nI s), .ref m0, .int (nI d)], M)) rfl rfl rfl ?_
      refine pl_call (a := [.ref m0, .int (nI s)]) (rest := [.int (nI d)]) rfl rfl rfl (rd_length (tx := tx) (cN := cN) (A := A) (s := s) (l := (tX f n E (fi f E (by2 f (cb + pc + 1))))) hR hY (hs)) (fun v1 M2 q3 => ?_)
      obtain ⟨rfl, rfl⟩ := q3
      show pl _ _ _ (814, [(0, .ref m0), (1, .int (nI pc)), (2, .int 193), (4, .int (nI s)), (5, .int (nI d))], [.int (nI ((tX f n E (fi f E (by2 f (cb + pc + 1)))).length)), .int (nI d)], M) _
      refine ps_if2 (S1 := (836, [(0, .ref m0), (1, .int (nI pc)), (2, .int 193), (5, .int (nI d))], [], M)) (S2 := (817, [(0, .ref m0), (1, .int (nI pc)), (2, .int 193), (4, .int (nI s)), (5, .int (nI d))], [], M)) rfl rfl rfl (fun c_814 => ?_) (fun c_814 => ?_)
      · have c_814 : (nI ((tX f n E (fi f E (by2 f (cb + pc + 1)))).length)) ≤ (nI d) := of_decide_eq_true c_814
        have n_814 : (tX f n E (fi f E (by2 f (cb + pc + 1)))).length ≤ d := (le_nI (p := (tX f n E (fi f E (by2 f (cb + pc + 1)))).length) (n := d) (by omega) (by omega)).mp c_814
        refine ps_st (S' := (837, [(0, .ref m0), (1, .int (nI pc)), (2, .int 193), (5, .int (nI d))], [.int 193], M)) rfl rfl rfl ?_
        refine ps_st (S' := (840, [(0, .ref m0), (1, .int (nI pc)), (2, .int 193), (5, .int (nI d))], [.int 187, .int 193], M)) rfl rfl rfl ?_
        refine ps_if2 (S1 := (854, [(0, .ref m0), (1, .int (nI pc)), (2, .int 193), (5, .int (nI d))], [], M)) (S2 := (843, [(0, .ref m0), (1, .int (nI pc)), (2, .int 193), (5, .int (nI d))], [], M)) rfl rfl rfl (fun c_840 => ?_) (fun c_840 => ?_)
        rotate_left
        · exact absurd (by decide) (of_decide_eq_false c_840)
        refine ps_st (S' := (855, [(0, .ref m0), (1, .int (nI pc)), (2, .int 193), (5, .int (nI d))], [.int 193], M)) rfl rfl rfl ?_
        refine ps_st (S' := (858, [(0, .ref m0), (1, .int (nI pc)), (2, .int 193), (5, .int (nI d))], [.int 189, .int 193], M)) rfl rfl rfl ?_
        refine ps_if2 (S1 := (875, [(0, .ref m0), (1, .int (nI pc)), (2, .int 193), (5, .int (nI d))], [], M)) (S2 := (861, [(0, .ref m0), (1, .int (nI pc)), (2, .int 193), (5, .int (nI d))], [], M)) rfl rfl rfl (fun c_858 => ?_) (fun c_858 => ?_)
        rotate_left
        · exact absurd (by decide) (of_decide_eq_false c_858)
        refine ps_st (S' := (876, [(0, .ref m0), (1, .int (nI pc)), (2, .int 193), (5, .int (nI d))], [.int 193], M)) rfl rfl rfl ?_
        refine ps_st (S' := (879, [(0, .ref m0), (1, .int (nI pc)), (2, .int 193), (5, .int (nI d))], [.int 197, .int 193], M)) rfl rfl rfl ?_
        refine ps_if2 (S1 := (905, [], [], M)) (S2 := (882, [(0, .ref m0), (1, .int (nI pc)), (2, .int 193), (5, .int (nI d))], [], M)) rfl rfl rfl (fun c_879 => ?_) (fun c_879 => ?_)
        rotate_left
        · exact absurd (by decide) (of_decide_eq_false c_879)
        refine ps_st (S' := (906, [], [.int 1], M)) rfl rfl rfl ?_
        refine ps_st (S' := (910, [], [.int 1], M)) rfl rfl rfl ?_
        exact ps_ret rfl rfl (⟨congrArg (fun x => some (Value.int (nI x))) (show 1 = if tg f E (by2 f (cb + pc + 1)) = 7 then 1 else 0 from by
            have hdm : dmN (tX f n E (fi f E (by2 f (cb + pc + 1)))) = d := dm_of hd hb (Or.inl (by omega))
            have hd0 := dm_0 hcp.2
            first | ((repeat first | rw [if_pos (by omega)] | rw [if_neg (by omega)]) <;> first | rfl | omega) | ((repeat' split) <;> first | rfl | (exfalso; omega) | omega)), rfl⟩)
      · have c_814 : ¬ ((nI ((tX f n E (fi f E (by2 f (cb + pc + 1)))).length)) ≤ (nI d)) := of_decide_eq_false c_814
        have n_814 : ¬ ((tX f n E (fi f E (by2 f (cb + pc + 1)))).length ≤ d) := fun h9 => c_814 ((le_nI (p := (tX f n E (fi f E (by2 f (cb + pc + 1)))).length) (n := d) (by omega) (by omega)).mpr h9)
        refine ps_st (S' := (818, [(0, .ref m0), (1, .int (nI pc)), (2, .int 193), (4, .int (nI s)), (5, .int (nI d))], [.ref m0], M)) rfl rfl rfl ?_
        refine ps_st (S' := (820, [(0, .ref m0), (1, .int (nI pc)), (2, .int 193), (4, .int (nI s)), (5, .int (nI d))], [.int (nI s), .ref m0], M)) rfl rfl rfl ?_
        refine ps_st (S' := (822, [(0, .ref m0), (1, .int (nI pc)), (2, .int 193), (4, .int (nI s)), (5, .int (nI d))], [.int (nI d), .int (nI s), .ref m0], M)) rfl rfl rfl ?_
        refine pl_call (a := [.ref m0, .int (nI s), .int (nI d)]) (rest := []) rfl rfl rfl (rd_at (tx := tx) (cN := cN) (A := A) (s := s) (l := (tX f n E (fi f E (by2 f (cb + pc + 1))))) (k := d) hR hY (hs) (by omega)) (fun v4 M5 q6 => ?_)
        obtain ⟨rfl, rfl⟩ := q6
        show pl _ _ _ (825, [(0, .ref m0), (1, .int (nI pc)), (2, .int 193), (4, .int (nI s)), (5, .int (nI d))], [.int (nI ((tX f n E (fi f E (by2 f (cb + pc + 1)))).getD d 0))], M) _
        have hc_822 := hY.ch hs (k := d) (by omega)
        refine ps_st (S' := (827, [(0, .ref m0), (1, .int (nI pc)), (2, .int 193), (4, .int (nI s)), (5, .int (nI d))], [.int 91, .int (nI ((tX f n E (fi f E (by2 f (cb + pc + 1)))).getD d 0))], M)) rfl rfl rfl ?_
        refine ps_if2 (S1 := (836, [(0, .ref m0), (1, .int (nI pc)), (2, .int 193), (5, .int (nI d))], [], M)) (S2 := (830, [(0, .ref m0), (1, .int (nI pc)), (2, .int 193), (4, .int (nI s)), (5, .int (nI d))], [], M)) rfl rfl rfl (fun c_827 => ?_) (fun c_827 => ?_)
        · have c_827 : ¬ (nI ((tX f n E (fi f E (by2 f (cb + pc + 1)))).getD d 0)) = 91 := of_decide_eq_true c_827
          have n_827 : ¬ ((tX f n E (fi f E (by2 f (cb + pc + 1)))).getD d 0 = 91) := fun h9 => c_827 ((eq_nI (p := (tX f n E (fi f E (by2 f (cb + pc + 1)))).getD d 0) (n := 91) (Nat.lt_trans (tx_ch _ _ _ _ _) (by decide)) (by decide)).mpr h9)
          refine ps_st (S' := (837, [(0, .ref m0), (1, .int (nI pc)), (2, .int 193), (5, .int (nI d))], [.int 193], M)) rfl rfl rfl ?_
          refine ps_st (S' := (840, [(0, .ref m0), (1, .int (nI pc)), (2, .int 193), (5, .int (nI d))], [.int 187, .int 193], M)) rfl rfl rfl ?_
          refine ps_if2 (S1 := (854, [(0, .ref m0), (1, .int (nI pc)), (2, .int 193), (5, .int (nI d))], [], M)) (S2 := (843, [(0, .ref m0), (1, .int (nI pc)), (2, .int 193), (5, .int (nI d))], [], M)) rfl rfl rfl (fun c_840 => ?_) (fun c_840 => ?_)
          rotate_left
          · exact absurd (by decide) (of_decide_eq_false c_840)
          refine ps_st (S' := (855, [(0, .ref m0), (1, .int (nI pc)), (2, .int 193), (5, .int (nI d))], [.int 193], M)) rfl rfl rfl ?_
          refine ps_st (S' := (858, [(0, .ref m0), (1, .int (nI pc)), (2, .int 193), (5, .int (nI d))], [.int 189, .int 193], M)) rfl rfl rfl ?_
          refine ps_if2 (S1 := (875, [(0, .ref m0), (1, .int (nI pc)), (2, .int 193), (5, .int (nI d))], [], M)) (S2 := (861, [(0, .ref m0), (1, .int (nI pc)), (2, .int 193), (5, .int (nI d))], [], M)) rfl rfl rfl (fun c_858 => ?_) (fun c_858 => ?_)
          rotate_left
          · exact absurd (by decide) (of_decide_eq_false c_858)
          refine ps_st (S' := (876, [(0, .ref m0), (1, .int (nI pc)), (2, .int 193), (5, .int (nI d))], [.int 193], M)) rfl rfl rfl ?_
          refine ps_st (S' := (879, [(0, .ref m0), (1, .int (nI pc)), (2, .int 193), (5, .int (nI d))], [.int 197, .int 193], M)) rfl rfl rfl ?_
          refine ps_if2 (S1 := (905, [], [], M)) (S2 := (882, [(0, .ref m0), (1, .int (nI pc)), (2, .int 193), (5, .int (nI d))], [], M)) rfl rfl rfl (fun c_879 => ?_) (fun c_879 => ?_)
          rotate_left
          · exact absurd (by decide) (of_decide_eq_false c_879)
          refine ps_st (S' := (906, [], [.int 1], M)) rfl rfl rfl ?_
          refine ps_st (S' := (910, [], [.int 1], M)) rfl rfl rfl ?_
          exact ps_ret rfl rfl (⟨congrArg (fun x => some (Value.int (nI x))) (show 1 = if tg f E (by2 f (cb + pc + 1)) = 7 then 1 else 0 from by
              have hdm : dmN (tX f n E (fi f E (by2 f (cb + pc + 1)))) = d := dm_of hd hb (Or.inr (by omega))
              have hd0 := dm_0 hcp.2
              first | ((repeat first | rw [if_pos (by omega)] | rw [if_neg (by omega)]) <;> first | rfl | omega) | ((repeat' split) <;> first | rfl | (exfalso; omega) | omega)), rfl⟩)
        · have c_827 : ¬ (¬ (nI ((tX f n E (fi f E (by2 f (cb + pc + 1)))).getD d 0)) = 91) := of_decide_eq_false c_827
          have n_827 : (tX f n E (fi f E (by2 f (cb + pc + 1)))).getD d 0 = 91 := (eq_nI (p := (tX f n E (fi f E (by2 f (cb + pc + 1)))).getD d 0) (n := 91) (Nat.lt_trans (tx_ch _ _ _ _ _) (by decide)) (by decide)).mp (Decidable.not_not.mp c_827)
          refine ps_st (S' := (833, [(5, .int ((nI d) + 1)), (0, .ref m0), (1, .int (nI pc)), (2, .int 193), (4, .int (nI s))], [], M)) rfl rfl rfl ?_
          rw [nI_add1 (p := d) (k := 1) (x := 1) rfl (by omega)]
          show pl _ _ _ (_, [(5, .int (nI (d + 1))), (0, .ref m0), (1, .int (nI pc)), (2, .int 193), (4, .int (nI s))], [], M) _
          refine ps_st (S' := (806, [(0, .ref m0), (1, .int (nI pc)), (2, .int 193), (4, .int (nI s)), (5, .int (nI (d + 1)))], [], M)) rfl rfl rfl ?_
          exact ih (s) (d + 1)  (hs) (by omega) (fun i9 h9 => (by by_cases e9 : i9 = d; rw [e9]; omega; exact hb i9 (by omega))) (ht7)
  refine ps_st (S' := (1, [(0, .ref m0), (1, .int (nI pc)), (2, .int 193)], [.int 193], M)) rfl rfl rfl ?_
  refine ps_st (S' := (4, [(0, .ref m0), (1, .int (nI pc)), (2, .int 193)], [.int 168, .int 193], M)) rfl rfl rfl ?_
  refine ps_if2 (S1 := (21, [(0, .ref m0), (1, .int (nI pc)), (2, .int 193)], [], M)) (S2 := (7, [(0, .ref m0), (1, .int (nI pc)), (2, .int 193)], [], M)) rfl rfl rfl (fun c_4 => ?_) (fun c_4 => ?_)
  · exact absurd (of_decide_eq_true c_4) (by decide)
  refine ps_st (S' := (8, [(0, .ref m0), (1, .int (nI pc)), (2, .int 193)], [.int 193], M)) rfl rfl rfl ?_
  refine ps_st (S' := (11, [(0, .ref m0), (1, .int (nI pc)), (2, .int 193)], [.int 169, .int 193], M)) rfl rfl rfl ?_
  refine ps_if2 (S1 := (21, [(0, .ref m0), (1, .int (nI pc)), (2, .int 193)], [], M)) (S2 := (14, [(0, .ref m0), (1, .int (nI pc)), (2, .int 193)], [], M)) rfl rfl rfl (fun c_11 => ?_) (fun c_11 => ?_)
  · exact absurd (of_decide_eq_true c_11) (by decide)
  refine ps_st (S' := (15, [(0, .ref m0), (1, .int (nI pc)), (2, .int 193)], [.int 193], M)) rfl rfl rfl ?_
  refine ps_st (S' := (18, [(0, .ref m0), (1, .int (nI pc)), (2, .int 193)], [.int 201, .int 193], M)) rfl rfl rfl ?_
  refine ps_if2 (S1 := (58, [(0, .ref m0), (1, .int (nI pc)), (2, .int 193)], [], M)) (S2 := (21, [(0, .ref m0), (1, .int (nI pc)), (2, .int 193)], [], M)) rfl rfl rfl (fun c_18 => ?_) (fun c_18 => ?_)
  rotate_left
  · exact absurd (by decide) (of_decide_eq_false c_18)
  refine ps_st (S' := (59, [(0, .ref m0), (1, .int (nI pc)), (2, .int 193)], [.int 193], M)) rfl rfl rfl ?_
  refine ps_st (S' := (61, [(0, .ref m0), (1, .int (nI pc)), (2, .int 193)], [.int 21, .int 193], M)) rfl rfl rfl ?_
  refine ps_if2 (S1 := (70, [(0, .ref m0), (1, .int (nI pc)), (2, .int 193)], [], M)) (S2 := (64, [(0, .ref m0), (1, .int (nI pc)), (2, .int 193)], [], M)) rfl rfl rfl (fun c_61 => ?_) (fun c_61 => ?_)
  · exact absurd (of_decide_eq_true c_61) (by decide)
  refine ps_st (S' := (65, [(0, .ref m0), (1, .int (nI pc)), (2, .int 193)], [.int 193], M)) rfl rfl rfl ?_
  refine ps_st (S' := (67, [(0, .ref m0), (1, .int (nI pc)), (2, .int 193)], [.int 25, .int 193], M)) rfl rfl rfl ?_
  refine ps_if2 (S1 := (82, [(0, .ref m0), (1, .int (nI pc)), (2, .int 193)], [], M)) (S2 := (70, [(0, .ref m0), (1, .int (nI pc)), (2, .int 193)], [], M)) rfl rfl rfl (fun c_67 => ?_) (fun c_67 => ?_)
  · exact absurd (of_decide_eq_true c_67) (by decide)
  refine ps_st (S' := (71, [(0, .ref m0), (1, .int (nI pc)), (2, .int 193)], [.int 193], M)) rfl rfl rfl ?_
  refine ps_st (S' := (73, [(0, .ref m0), (1, .int (nI pc)), (2, .int 193)], [.int 54, .int 193], M)) rfl rfl rfl ?_
  refine ps_if2 (S1 := (127, [(0, .ref m0), (1, .int (nI pc)), (2, .int 193)], [], M)) (S2 := (76, [(0, .ref m0), (1, .int (nI pc)), (2, .int 193)], [], M)) rfl rfl rfl (fun c_73 => ?_) (fun c_73 => ?_)
  · exact absurd (of_decide_eq_true c_73) (by decide)
  refine ps_st (S' := (77, [(0, .ref m0), (1, .int (nI pc)), (2, .int 193)], [.int 193], M)) rfl rfl rfl ?_
  refine ps_st (S' := (79, [(0, .ref m0), (1, .int (nI pc)), (2, .int 193)], [.int 58, .int 193], M)) rfl rfl rfl ?_
  refine ps_if2 (S1 := (127, [(0, .ref m0), (1, .int (nI pc)), (2, .int 193)], [], M)) (S2 := (82, [(0, .ref m0), (1, .int (nI pc)), (2, .int 193)], [], M)) rfl rfl rfl (fun c_79 => ?_) (fun c_79 => ?_)
  rotate_left
  · exact absurd (by decide) (of_decide_eq_false c_79)
  refine ps_st (S' := (128, [(0, .ref m0), (1, .int (nI pc)), (2, .int 193)], [.int 193], M)) rfl rfl rfl ?_
  refine ps_st (S' := (130, [(0, .ref m0), (1, .int (nI pc)), (2, .int 193)], [.int 26, .int 193], M)) rfl rfl rfl ?_
  refine ps_if2 (S1 := (139, [(0, .ref m0), (1, .int (nI pc)), (2, .int 193)], [], M)) (S2 := (133, [(0, .ref m0), (1, .int (nI pc)), (2, .int 193)], [], M)) rfl rfl rfl (fun c_130 => ?_) (fun c_130 => ?_)
  · exact absurd (of_decide_eq_true c_130) (by decide)
  refine ps_st (S' := (134, [(0, .ref m0), (1, .int (nI pc)), (2, .int 193)], [.int 193], M)) rfl rfl rfl ?_
  refine ps_st (S' := (136, [(0, .ref m0), (1, .int (nI pc)), (2, .int 193)], [.int 45, .int 193], M)) rfl rfl rfl ?_
  refine ps_if2 (S1 := (151, [(0, .ref m0), (2, .int 193)], [], M)) (S2 := (139, [(0, .ref m0), (1, .int (nI pc)), (2, .int 193)], [], M)) rfl rfl rfl (fun c_136 => ?_) (fun c_136 => ?_)
  · exact absurd (of_decide_eq_true c_136) (by decide)
  refine ps_st (S' := (140, [(0, .ref m0), (1, .int (nI pc)), (2, .int 193)], [.int 193], M)) rfl rfl rfl ?_
  refine ps_st (S' := (142, [(0, .ref m0), (1, .int (nI pc)), (2, .int 193)], [.int 59, .int 193], M)) rfl rfl rfl ?_
  refine ps_if2 (S1 := (196, [(0, .ref m0), (1, .int (nI pc)), (2, .int 193)], [], M)) (S2 := (145, [(0, .ref m0), (1, .int (nI pc)), (2, .int 193)], [], M)) rfl rfl rfl (fun c_142 => ?_) (fun c_142 => ?_)
  · exact absurd (of_decide_eq_true c_142) (by decide)
  refine ps_st (S' := (146, [(0, .ref m0), (1, .int (nI pc)), (2, .int 193)], [.int 193], M)) rfl rfl rfl ?_
  refine ps_st (S' := (148, [(0, .ref m0), (1, .int (nI pc)), (2, .int 193)], [.int 78, .int 193], M)) rfl rfl rfl ?_
  refine ps_if2 (S1 := (196, [(0, .ref m0), (1, .int (nI pc)), (2, .int 193)], [], M)) (S2 := (151, [(0, .ref m0), (2, .int 193)], [], M)) rfl rfl rfl (fun c_148 => ?_) (fun c_148 => ?_)
  rotate_left
  · exact absurd (by decide) (of_decide_eq_false c_148)
  refine ps_st (S' := (197, [(0, .ref m0), (1, .int (nI pc)), (2, .int 193)], [.int 193], M)) rfl rfl rfl ?_
  refine ps_st (S' := (200, [(0, .ref m0), (1, .int (nI pc)), (2, .int 193)], [.int 132, .int 193], M)) rfl rfl rfl ?_
  refine ps_if2 (S1 := (216, [(0, .ref m0), (1, .int (nI pc)), (2, .int 193)], [], M)) (S2 := (203, [(0, .ref m0), (1, .int (nI pc)), (2, .int 193)], [], M)) rfl rfl rfl (fun c_200 => ?_) (fun c_200 => ?_)
  rotate_left
  · exact absurd (by decide) (of_decide_eq_false c_200)
  refine ps_st (S' := (217, [(0, .ref m0), (1, .int (nI pc)), (2, .int 193)], [.int 193], M)) rfl rfl rfl ?_
  refine ps_st (S' := (220, [(0, .ref m0), (1, .int (nI pc)), (2, .int 193)], [.int 196, .int 193], M)) rfl rfl rfl ?_
  refine ps_if2 (S1 := (296, [(0, .ref m0), (1, .int (nI pc)), (2, .int 193)], [], M)) (S2 := (223, [(0, .ref m0), (1, .int (nI pc)), (2, .int 193)], [], M)) rfl rfl rfl (fun c_220 => ?_) (fun c_220 => ?_)
  rotate_left
  · exact absurd (by decide) (of_decide_eq_false c_220)
  refine ps_st (S' := (297, [(0, .ref m0), (1, .int (nI pc)), (2, .int 193)], [.int 193], M)) rfl rfl rfl ?_
  refine ps_st (S' := (300, [(0, .ref m0), (1, .int (nI pc)), (2, .int 193)], [.int 188, .int 193], M)) rfl rfl rfl ?_
  refine ps_if2 (S1 := (332, [(0, .ref m0), (1, .int (nI pc)), (2, .int 193)], [], M)) (S2 := (303, [(0, .ref m0), (1, .int (nI pc)), (2, .int 193)], [], M)) rfl rfl rfl (fun c_300 => ?_) (fun c_300 => ?_)
  rotate_left
  · exact absurd (by decide) (of_decide_eq_false c_300)
  refine ps_st (S' := (333, [(0, .ref m0), (1, .int (nI pc)), (2, .int 193)], [.int 193], M)) rfl rfl rfl ?_
  refine ps_st (S' := (335, [(0, .ref m0), (1, .int (nI pc)), (2, .int 193)], [.int 18, .int 193], M)) rfl rfl rfl ?_
  refine ps_if2 (S1 := (513, [(0, .ref m0), (1, .int (nI pc)), (2, .int 193)], [], M)) (S2 := (338, [(0, .ref m0), (1, .int (nI pc)), (2, .int 193)], [], M)) rfl rfl rfl (fun c_335 => ?_) (fun c_335 => ?_)
  · exact absurd (of_decide_eq_true c_335) (by decide)
  refine ps_st (S' := (339, [(0, .ref m0), (1, .int (nI pc)), (2, .int 193)], [.int 193], M)) rfl rfl rfl ?_
  refine ps_st (S' := (341, [(0, .ref m0), (1, .int (nI pc)), (2, .int 193)], [.int 20, .int 193], M)) rfl rfl rfl ?_
  refine ps_if2 (S1 := (513, [(0, .ref m0), (1, .int (nI pc)), (2, .int 193)], [], M)) (S2 := (344, [(0, .ref m0), (1, .int (nI pc)), (2, .int 193)], [], M)) rfl rfl rfl (fun c_341 => ?_) (fun c_341 => ?_)
  rotate_left
  · exact absurd (by decide) (of_decide_eq_false c_341)
  refine ps_st (S' := (514, [(0, .ref m0), (1, .int (nI pc)), (2, .int 193)], [.int 193], M)) rfl rfl rfl ?_
  refine ps_st (S' := (517, [(0, .ref m0), (1, .int (nI pc)), (2, .int 193)], [.int 178, .int 193], M)) rfl rfl rfl ?_
  refine ps_if2 (S1 := (549, [(0, .ref m0), (1, .int (nI pc)), (2, .int 193)], [], M)) (S2 := (520, [(0, .ref m0), (1, .int (nI pc)), (2, .int 193)], [], M)) rfl rfl rfl (fun c_517 => ?_) (fun c_517 => ?_)
  · exact absurd (of_decide_eq_true c_517) (by decide)
  refine ps_st (S' := (521, [(0, .ref m0), (1, .int (nI pc)), (2, .int 193)], [.int 193], M)) rfl rfl rfl ?_
  refine ps_st (S' := (524, [(0, .ref m0), (1, .int (nI pc)), (2, .int 193)], [.int 181, .int 193], M)) rfl rfl rfl ?_
  refine ps_if2 (S1 := (549, [(0, .ref m0), (1, .int (nI pc)), (2, .int 193)], [], M)) (S2 := (527, [(0, .ref m0), (1, .int (nI pc)), (2, .int 193)], [], M)) rfl rfl rfl (fun c_524 => ?_) (fun c_524 => ?_)
  rotate_left
  · exact absurd (by decide) (of_decide_eq_false c_524)
  refine ps_st (S' := (550, [(0, .ref m0), (1, .int (nI pc)), (2, .int 193)], [.int 193], M)) rfl rfl rfl ?_
  refine ps_st (S' := (553, [(0, .ref m0), (1, .int (nI pc)), (2, .int 193)], [.int 182, .int 193], M)) rfl rfl rfl ?_
  refine ps_if2 (S1 := (692, [(0, .ref m0), (1, .int (nI pc)), (2, .int 193)], [], M)) (S2 := (556, [(0, .ref m0), (1, .int (nI pc)), (2, .int 193)], [], M)) rfl rfl rfl (fun c_553 => ?_) (fun c_553 => ?_)
  · exact absurd (of_decide_eq_true c_553) (by decide)
  refine ps_st (S' := (557, [(0, .ref m0), (1, .int (nI pc)), (2, .int 193)], [.int 193], M)) rfl rfl rfl ?_
  refine ps_st (S' := (560, [(0, .ref m0), (1, .int (nI pc)), (2, .int 193)], [.int 185, .int 193], M)) rfl rfl rfl ?_
  refine ps_if2 (S1 := (692, [(0, .ref m0), (1, .int (nI pc)), (2, .int 193)], [], M)) (S2 := (563, [(0, .ref m0), (1, .int (nI pc)), (2, .int 193)], [], M)) rfl rfl rfl (fun c_560 => ?_) (fun c_560 => ?_)
  rotate_left
  · exact absurd (by decide) (of_decide_eq_false c_560)
  refine ps_st (S' := (693, [(0, .ref m0), (1, .int (nI pc)), (2, .int 193)], [.int 193], M)) rfl rfl rfl ?_
  refine ps_st (S' := (696, [(0, .ref m0), (1, .int (nI pc)), (2, .int 193)], [.int 186, .int 193], M)) rfl rfl rfl ?_
  refine ps_if2 (S1 := (741, [(0, .ref m0), (1, .int (nI pc)), (2, .int 193)], [], M)) (S2 := (699, [(0, .ref m0), (1, .int (nI pc)), (2, .int 193)], [], M)) rfl rfl rfl (fun c_696 => ?_) (fun c_696 => ?_)
  rotate_left
  · exact absurd (by decide) (of_decide_eq_false c_696)
  refine ps_st (S' := (742, [(0, .ref m0), (1, .int (nI pc)), (2, .int 193)], [.int 193], M)) rfl rfl rfl ?_
  refine ps_st (S' := (745, [(0, .ref m0), (1, .int (nI pc)), (2, .int 193)], [.int 187, .int 193], M)) rfl rfl rfl ?_
  refine ps_if2 (S1 := (776, [(0, .ref m0), (1, .int (nI pc)), (2, .int 193)], [], M)) (S2 := (748, [(0, .ref m0), (1, .int (nI pc)), (2, .int 193)], [], M)) rfl rfl rfl (fun c_745 => ?_) (fun c_745 => ?_)
  · exact absurd (of_decide_eq_true c_745) (by decide)
  refine ps_st (S' := (749, [(0, .ref m0), (1, .int (nI pc)), (2, .int 193)], [.int 193], M)) rfl rfl rfl ?_
  refine ps_st (S' := (752, [(0, .ref m0), (1, .int (nI pc)), (2, .int 193)], [.int 189, .int 193], M)) rfl rfl rfl ?_
  refine ps_if2 (S1 := (776, [(0, .ref m0), (1, .int (nI pc)), (2, .int 193)], [], M)) (S2 := (755, [(0, .ref m0), (1, .int (nI pc)), (2, .int 193)], [], M)) rfl rfl rfl (fun c_752 => ?_) (fun c_752 => ?_)
  · exact absurd (of_decide_eq_true c_752) (by decide)
  refine ps_st (S' := (756, [(0, .ref m0), (1, .int (nI pc)), (2, .int 193)], [.int 193], M)) rfl rfl rfl ?_
  refine ps_st (S' := (759, [(0, .ref m0), (1, .int (nI pc)), (2, .int 193)], [.int 192, .int 193], M)) rfl rfl rfl ?_
  refine ps_if2 (S1 := (776, [(0, .ref m0), (1, .int (nI pc)), (2, .int 193)], [], M)) (S2 := (762, [(0, .ref m0), (1, .int (nI pc)), (2, .int 193)], [], M)) rfl rfl rfl (fun c_759 => ?_) (fun c_759 => ?_)
  · exact absurd (of_decide_eq_true c_759) (by decide)
  refine ps_st (S' := (763, [(0, .ref m0), (1, .int (nI pc)), (2, .int 193)], [.int 193], M)) rfl rfl rfl ?_
  refine ps_st (S' := (766, [(0, .ref m0), (1, .int (nI pc)), (2, .int 193)], [.int 193, .int 193], M)) rfl rfl rfl ?_
  refine ps_if2 (S1 := (776, [(0, .ref m0), (1, .int (nI pc)), (2, .int 193)], [], M)) (S2 := (769, [(0, .ref m0), (1, .int (nI pc)), (2, .int 193)], [], M)) rfl rfl rfl (fun c_766 => ?_) (fun c_766 => ?_)
  rotate_left
  · exact absurd (by decide) (of_decide_eq_false c_766)
  refine ps_st (S' := (777, [(0, .ref m0), (1, .int (nI pc)), (2, .int 193)], [.ref m0], M)) rfl rfl rfl ?_
  refine ps_st (S' := (778, [(0, .ref m0), (1, .int (nI pc)), (2, .int 193)], [.int (nI pc), .ref m0], M)) rfl rfl rfl ?_
  refine ps_st (S' := (779, [(0, .ref m0), (1, .int (nI pc)), (2, .int 193)], [.int 1, .int (nI pc), .ref m0], M)) rfl rfl rfl ?_
  refine ps_st (S' := (780, [(0, .ref m0), (1, .int (nI pc)), (2, .int 193)], [.int ((nI pc) + 1), .ref m0], M)) rfl rfl rfl ?_
  rw [nI_add1 (p := pc) (k := 1) (x := 1) rfl (by omega)]
  show pl _ _ _ (_, [(0, .ref m0), (1, .int (nI pc)), (2, .int 193)], [.int (nI (pc + 1)), .ref m0], M) _
  refine pl_call (a := [.ref m0, .int (nI (pc + 1))]) (rest := []) rfl rfl rfl (rd_b2 (n := n) (f := f) (cb := cb) (p := (pc + 1)) hR hi77 hF (by omega)) (fun v7 M8 q9 => ?_)
  obtain ⟨rfl, rfl⟩ := q9
  show pl _ _ _ (783, [(0, .ref m0), (1, .int (nI pc)), (2, .int 193)], [.int (nI (by2 f (cb + (pc + 1))))], M) _
  show pl _ _ _ (_, [(0, .ref m0), (1, .int (nI pc)), (2, .int 193)], [.int (nI (by2 f (cb + pc + 1)))], M) _
  have hb_780 := by2_lt f (cb + pc + 1)
  refine ps_st (S' := (784, [(3, .int (nI (by2 f (cb + pc + 1)))), (0, .ref m0), (1, .int (nI pc)), (2, .int 193)], [], M)) rfl rfl rfl ?_
  refine ps_st (S' := (785, [(3, .int (nI (by2 f (cb + pc + 1)))), (0, .ref m0), (1, .int (nI pc)), (2, .int 193)], [.ref m0], M)) rfl rfl rfl ?_
  refine ps_st (S' := (786, [(3, .int (nI (by2 f (cb + pc + 1)))), (0, .ref m0), (1, .int (nI pc)), (2, .int 193)], [.int (nI (by2 f (cb + pc + 1))), .ref m0], M)) rfl rfl rfl ?_
  refine pl_call (a := [.ref m0, .int (nI (by2 f (cb + pc + 1)))]) (rest := []) rfl rfl rfl (rd_tag (n := n) (f := f) (tx := tx) (cN := cN) (A := A) (N := N) (mj := mj) (E := E) (k := (by2 f (cb + pc + 1))) hR hi51 hi52 hi53 hF hY hP (hEP) (hN) (hmj) (by2_lt _ _)) (fun v10 M11 q12 => ?_)
  obtain ⟨rfl, rfl⟩ := q12
  show pl _ _ _ (789, [(3, .int (nI (by2 f (cb + pc + 1)))), (0, .ref m0), (1, .int (nI pc)), (2, .int 193)], [.int (nI (tg f E (by2 f (cb + pc + 1))))], M) _
  have htg_786 := tg_lt f E (by2 f (cb + pc + 1))
  refine ps_st (S' := (791, [(3, .int (nI (by2 f (cb + pc + 1)))), (0, .ref m0), (1, .int (nI pc)), (2, .int 193)], [.int 7, .int (nI (tg f E (by2 f (cb + pc + 1))))], M)) rfl rfl rfl ?_
  refine ps_if2 (S1 := (796, [(3, .int (nI (by2 f (cb + pc + 1)))), (0, .ref m0), (1, .int (nI pc)), (2, .int 193)], [], M)) (S2 := (794, [(3, .int (nI (by2 f (cb + pc + 1)))), (0, .ref m0), (1, .int (nI pc)), (2, .int 193)], [], M)) rfl rfl rfl (fun c_791 => ?_) (fun c_791 => ?_)
  · have c_791 : (nI (tg f E (by2 f (cb + pc + 1)))) = 7 := of_decide_eq_true c_791
    have n_791 : tg f E (by2 f (cb + pc + 1)) = 7 := (eq_nI (p := tg f E (by2 f (cb + pc + 1))) (n := 7) (Nat.lt_trans (tg_lt _ _ _) (by decide)) (by decide)).mp c_791
    refine ps_st (S' := (797, [(3, .int (nI (by2 f (cb + pc + 1)))), (0, .ref m0), (1, .int (nI pc)), (2, .int 193)], [.ref m0], M)) rfl rfl rfl ?_
    refine ps_st (S' := (798, [(3, .int (nI (by2 f (cb + pc + 1)))), (0, .ref m0), (1, .int (nI pc)), (2, .int 193)], [.int (nI (by2 f (cb + pc + 1))), .ref m0], M)) rfl rfl rfl ?_
    refine pl_call (a := [.ref m0, .int (nI (by2 f (cb + pc + 1)))]) (rest := []) rfl rfl rfl (rd_className (n := n) (f := f) (tx := tx) (cN := cN) (A := A) (N := N) (mj := mj) (E := E) (k := (by2 f (cb + pc + 1))) hR hi51 hi52 hi53 hF hY hP (hEP) (hN) (hmj) (⟨by omega, (hCP _ (by omega)).1⟩)) (fun v13 M14 q15 => ?_)
    obtain ⟨s16, q798_s, rfl, rfl⟩ := q15
    show pl _ _ _ (801, [(3, .int (nI (by2 f (cb + pc + 1)))), (0, .ref m0), (1, .int (nI pc)), (2, .int 193)], [.int (nI s16)], M) _
    have hsl_798 := q798_s.1
    have htl_798 := hY.1.2.2.1
    refine ps_st (S' := (803, [(4, .int (nI s16)), (3, .int (nI (by2 f (cb + pc + 1)))), (0, .ref m0), (1, .int (nI pc)), (2, .int 193)], [], M)) rfl rfl rfl ?_
    refine ps_st (S' := (804, [(4, .int (nI s16)), (3, .int (nI (by2 f (cb + pc + 1)))), (0, .ref m0), (1, .int (nI pc)), (2, .int 193)], [.int 0], M)) rfl rfl rfl ?_
    refine ps_st (S' := (806, [(0, .ref m0), (1, .int (nI pc)), (2, .int 193), (4, .int (nI s16)), (5, .int 0)], [], M)) rfl rfl rfl ?_
    exact (LL kf) (s16) (0)  (q798_s) (Nat.zero_le _) (fun i9 h9 => absurd h9 (Nat.not_lt_zero _)) (by omega)
  · have c_791 : ¬ ((nI (tg f E (by2 f (cb + pc + 1)))) = 7) := of_decide_eq_false c_791
    have n_791 : ¬ (tg f E (by2 f (cb + pc + 1)) = 7) := fun h9 => c_791 ((eq_nI (p := tg f E (by2 f (cb + pc + 1))) (n := 7) (Nat.lt_trans (tg_lt _ _ _) (by decide)) (by decide)).mpr h9)
    refine ps_st (S' := (795, [(3, .int (nI (by2 f (cb + pc + 1)))), (0, .ref m0), (1, .int (nI pc)), (2, .int 193)], [.int 0], M)) rfl rfl rfl ?_
    exact ps_ret rfl rfl (⟨congrArg (fun x => some (Value.int (nI x))) (show 0 = if tg f E (by2 f (cb + pc + 1)) = 7 then 1 else 0 from by
        first | ((repeat first | rw [if_pos (by omega)] | rw [if_neg (by omega)]) <;> first | rfl | omega) | ((repeat' split) <;> first | rfl | (exfalso; omega) | omega)), rfl⟩)
set_option maxHeartbeats 1000000 in
theorem rd_op197 {g : xe_G} {m0 : Nat} {q : Nat → Nat} {z : Nat × Nat} {I : rI} {R : rR} {M : mi_H} {n : Nat} {f : Nat → Int32} {tx : List (List Nat)} {cN : Nat} {A : Nat → Nat} {N mj : Nat} {E : List (Nat × Nat)} {cb ml s9 pc : Nat} (hR : RS g m0 q z I R M) (hi51 : I 51 = some 0) (hi52 : I 52 = some (nI N)) (hi53 : I 53 = some (nI mj)) (hi77 : I 77 = some (nI cb)) (hi79 : I 79 = some (nI ml)) (hi9 : I 9 = some (nI s9)) (hF : FK n f I R) (hY : SYT tx cN A I R) (hP : RPV f n E tx N I R) (hEP : EP f n E) (hN : N < 65536) (hmj : mj < 65536) (hml : ml < 65536) (hs9 : s9 < tx.length ∧ tx.getD s9 [] = ltx 14) (hCP : CP f n E) (hPF : PF f n E) (hin : cb + pc + 4 ≤ n) : pt (mT g) 228 [.ref m0, .int (nI pc), .int 197] M (fun v M' => (v = some (.int (nI (if tg f E (by2 f (cb + pc + 1)) = 7 ∧ 1 ≤ by1 f (cb + pc + 3) ∧ by1 f (cb + pc + 3) ≤ dmN (tX f n E (fi f E (by2 f (cb + pc + 1)))) then 1 else 0))) ∧ M = M')) := by
  refine pt_in (b := mb_228 g) rfl (fun kf => ?_)
  show pl (mT g) kf (mb_228 g).2 (0, [(0, .ref m0), (1, .int (nI pc)), (2, .int 197)], [], M) _
  have hn := hF.1
  have htl := hY.1.2.2.1
  have LL : ∀ (kf : Nat), (∀ (s d : Nat), (s < tx.length ∧ tx.getD s [] = (tX f n E (fi f E (by2 f (cb + pc + 1))))) → (d ≤ (tX f n E (fi f E (by2 f (cb + pc + 1)))).length) → (∀ i9, i9 < d → (tX f n E (fi f E (by2 f (cb + pc + 1)))).getD i9 0 = 91) → (tg f E (by2 f (cb + pc + 1)) = 7) →  pl (mT g) kf (mb_228 g).2 (806, [(0, .ref m0), (1, .int (nI pc)), (2, .int 197), (4, .int (nI s)), (5, .int (nI d))], [], M) (fun v M' => (v = some (.int (nI (if tg f E (by2 f (cb + pc + 1)) = 7 ∧ 1 ≤ by1 f (cb + pc + 3) ∧ by1 f (cb + pc + 3) ≤ dmN (tX f n E (fi f E (by2 f (cb + pc + 1)))) then 1 else 0))) ∧ M = M'))) := by
    intro kf
    induction kf with
    | zero => exact (by intros; exact pl_0)
    | succ kf ih =>
      intro s d hs hd hb ht7
      have hcp := hCP _ ht7
      have hlx := tx_len f n E (fi f E (by2 f (cb + pc + 1)))
      refine ps_st1 (S' := (808, [(0, .ref m0), (1, .int (nI pc)), (2, .int 197), (4, .int (nI s)), (5, .int (nI d))], [.int (nI d)], M)) rfl rfl rfl ?_
      refine ps_st (S' := (809, [(0, .ref m0), (1, .int (nI pc)), (2, .int 197), (4, .int (nI s)), (5, .int (nI d))], [.ref m0, .int (nI d)], M)) rfl rfl rfl ?_
      refine ps_st (S' := (811, [(0, .ref m0), (1, .int (nI pc)), (2, .int 197), (4, .int (nI s)), (5, .int (nI d))], [.int (nI s), .ref m0, .int (nI d)], M)) rfl rfl rfl ?_
      refine pl_call (a := [.ref m0, .int (nI s)]) (rest := [.int (nI d)]) rfl rfl rfl (rd_length (tx := tx) (cN := cN) (A := A) (s := s) (l := (tX f n E (fi f E (by2 f (cb + pc + 1))))) hR hY (hs)) (fun v1 M2 q3 => ?_)
      obtain ⟨rfl, rfl⟩ := q3
      show pl _ _ _ (814, [(0, .ref m0), (1, .int (nI pc)), (2, .int 197), (4, .int (nI s)), (5, .int (nI d))], [.int (nI ((tX f n E (fi f E (by2 f (cb + pc + 1)))).length)), .int (nI d)], M) _
      refine ps_if2 (S1 := (836, [(0, .ref m0), (1, .int (nI pc)), (2, .int 197), (5, .int (nI d))], [], M)) (S2 := (817, [(0, .ref m0), (1, .int (nI pc)), (2, .int 197), (4, .int (nI s)), (5, .int (nI d))], [], M)) rfl rfl rfl (fun c_814 => ?_) (fun c_814 => ?_)
      · have c_814 : (nI ((tX f n E (fi f E (by2 f (cb + pc + 1)))).length)) ≤ (nI d) := of_decide_eq_true c_814
        have n_814 : (tX f n E (fi f E (by2 f (cb + pc + 1)))).length ≤ d := (le_nI (p := (tX f n E (fi f E (by2 f (cb + pc + 1)))).length) (n := d) (by omega) (by omega)).mp c_814
        refine ps_st (S' := (837, [(0, .ref m0), (1, .int (nI pc)), (2, .int 197), (5, .int (nI d))], [.int 197], M)) rfl rfl rfl ?_
        refine ps_st (S' := (840, [(0, .ref m0), (1, .int (nI pc)), (2, .int 197), (5, .int (nI d))], [.int 187, .int 197], M)) rfl rfl rfl ?_
        refine ps_if2 (S1 := (854, [(0, .ref m0), (1, .int (nI pc)), (2, .int 197), (5, .int (nI d))], [], M)) (S2 := (843, [(0, .ref m0), (1, .int (nI pc)), (2, .int 197), (5, .int (nI d))], [], M)) rfl rfl rfl (fun c_840 => ?_) (fun c_840 => ?_)
        rotate_left
        · exact absurd (by decide) (of_decide_eq_false c_840)
        refine ps_st (S' := (855, [(0, .ref m0), (1, .int (nI pc)), (2, .int 197), (5, .int (nI d))], [.int 197], M)) rfl rfl rfl ?_
        refine ps_st (S' := (858, [(0, .ref m0), (1, .int (nI pc)), (2, .int 197), (5, .int (nI d))], [.int 189, .int 197], M)) rfl rfl rfl ?_
        refine ps_if2 (S1 := (875, [(0, .ref m0), (1, .int (nI pc)), (2, .int 197), (5, .int (nI d))], [], M)) (S2 := (861, [(0, .ref m0), (1, .int (nI pc)), (2, .int 197), (5, .int (nI d))], [], M)) rfl rfl rfl (fun c_858 => ?_) (fun c_858 => ?_)
        rotate_left
        · exact absurd (by decide) (of_decide_eq_false c_858)
        refine ps_st (S' := (876, [(0, .ref m0), (1, .int (nI pc)), (2, .int 197), (5, .int (nI d))], [.int 197], M)) rfl rfl rfl ?_
        refine ps_st (S' := (879, [(0, .ref m0), (1, .int (nI pc)), (2, .int 197), (5, .int (nI d))], [.int 197, .int 197], M)) rfl rfl rfl ?_
        refine ps_if2 (S1 := (905, [], [], M)) (S2 := (882, [(0, .ref m0), (1, .int (nI pc)), (2, .int 197), (5, .int (nI d))], [], M)) rfl rfl rfl (fun c_879 => ?_) (fun c_879 => ?_)
        · exact absurd (of_decide_eq_true c_879) (by decide)
        refine ps_st (S' := (883, [(0, .ref m0), (1, .int (nI pc)), (2, .int 197), (5, .int (nI d))], [.ref m0], M)) rfl rfl rfl ?_
        refine ps_st (S' := (884, [(0, .ref m0), (1, .int (nI pc)), (2, .int 197), (5, .int (nI d))], [.int (nI pc), .ref m0], M)) rfl rfl rfl ?_
        refine ps_st (S' := (885, [(0, .ref m0), (1, .int (nI pc)), (2, .int 197), (5, .int (nI d))], [.int 3, .int (nI pc), .ref m0], M)) rfl rfl rfl ?_
        refine ps_st (S' := (886, [(0, .ref m0), (1, .int (nI pc)), (2, .int 197), (5, .int (nI d))], [.int ((nI pc) + 3), .ref m0], M)) rfl rfl rfl ?_
        rw [nI_add1 (p := pc) (k := 3) (x := 3) rfl (by omega)]
        show pl _ _ _ (_, [(0, .ref m0), (1, .int (nI pc)), (2, .int 197), (5, .int (nI d))], [.int (nI (pc + 3)), .ref m0], M) _
        refine pl_call (a := [.ref m0, .int (nI (pc + 3))]) (rest := []) rfl rfl rfl (rd_b1 (n := n) (f := f) (cb := cb) (p := (pc + 3)) hR hi77 hF (by omega)) (fun v4 M5 q6 => ?_)
        obtain ⟨rfl, rfl⟩ := q6
        show pl _ _ _ (889, [(0, .ref m0), (1, .int (nI pc)), (2, .int 197), (5, .int (nI d))], [.int (nI (by1 f (cb + (pc + 3))))], M) _
        show pl _ _ _ (_, [(0, .ref m0), (1, .int (nI pc)), (2, .int 197), (5, .int (nI d))], [.int (nI (by1 f (cb + pc + 3)))], M) _
        have hb_886 := by1_lt f (cb + pc + 3)
        refine ps_st (S' := (890, [(0, .ref m0), (1, .int (nI pc)), (2, .int 197), (5, .int (nI d))], [.int 1, .int (nI (by1 f (cb + pc + 3)))], M)) rfl rfl rfl ?_
        refine ps_if2 (S1 := (909, [], [], M)) (S2 := (893, [(0, .ref m0), (1, .int (nI pc)), (2, .int 197), (5, .int (nI d))], [], M)) rfl rfl rfl (fun c_890 => ?_) (fun c_890 => ?_)
        · have c_890 : (nI (by1 f (cb + pc + 3))) < 1 := of_decide_eq_true c_890
          have n_890 : by1 f (cb + pc + 3) < 1 := (lt_nI (p := by1 f (cb + pc + 3)) (n := 1) (Nat.lt_trans (by1_lt _ _) (by decide)) (by decide)).mp c_890
          refine ps_st (S' := (910, [], [.int 0], M)) rfl rfl rfl ?_
          exact ps_ret rfl rfl (⟨congrArg (fun x => some (Value.int (nI x))) (show 0 = if tg f E (by2 f (cb + pc + 1)) = 7 ∧ 1 ≤ by1 f (cb + pc + 3) ∧ by1 f (cb + pc + 3) ≤ dmN (tX f n E (fi f E (by2 f (cb + pc + 1)))) then 1 else 0 from by
              have hdm : dmN (tX f n E (fi f E (by2 f (cb + pc + 1)))) = d := dm_of hd hb (Or.inl (by omega))
              have hd0 := dm_0 hcp.2
              first | ((repeat first | rw [if_pos (by omega)] | rw [if_neg (by omega)]) <;> first | rfl | omega) | ((repeat' split) <;> first | rfl | (exfalso; omega) | omega)), rfl⟩)
        · have c_890 : ¬ ((nI (by1 f (cb + pc + 3))) < 1) := of_decide_eq_false c_890
          have n_890 : ¬ (by1 f (cb + pc + 3) < 1) := fun h9 => c_890 ((lt_nI (p := by1 f (cb + pc + 3)) (n := 1) (Nat.lt_trans (by1_lt _ _) (by decide)) (by decide)).mpr h9)
          refine ps_st (S' := (894, [(0, .ref m0), (1, .int (nI pc)), (2, .int 197), (5, .int (nI d))], [.ref m0], M)) rfl rfl rfl ?_
          refine ps_st (S' := (895, [(0, .ref m0), (1, .int (nI pc)), (2, .int 197), (5, .int (nI d))], [.int (nI pc), .ref m0], M)) rfl rfl rfl ?_
          refine ps_st (S' := (896, [(0, .ref m0), (1, .int (nI pc)), (2, .int 197), (5, .int (nI d))], [.int 3, .int (nI pc), .ref m0], M)) rfl rfl rfl ?_
          refine ps_st (S' := (897, [(0, .ref m0), (1, .int (nI pc)), (2, .int 197), (5, .int (nI d))], [.int ((nI pc) + 3), .ref m0], M)) rfl rfl rfl ?_
          rw [nI_add1 (p := pc) (k := 3) (x := 3) rfl (by omega)]
          show pl _ _ _ (_, [(0, .ref m0), (1, .int (nI pc)), (2, .int 197), (5, .int (nI d))], [.int (nI (pc + 3)), .ref m0], M) _
          refine pl_call (a := [.ref m0, .int (nI (pc + 3))]) (rest := []) rfl rfl rfl (rd_b1 (n := n) (f := f) (cb := cb) (p := (pc + 3)) hR hi77 hF (by omega)) (fun v7 M8 q9 => ?_)
          obtain ⟨rfl, rfl⟩ := q9
          show pl _ _ _ (900, [(0, .ref m0), (1, .int (nI pc)), (2, .int 197), (5, .int (nI d))], [.int (nI (by1 f (cb + (pc + 3))))], M) _
          show pl _ _ _ (_, [(0, .ref m0), (1, .int (nI pc)), (2, .int 197), (5, .int (nI d))], [.int (nI (by1 f (cb + pc + 3)))], M) _
          have hb_897 := by1_lt f (cb + pc + 3)
          refine ps_st (S' := (902, [(0, .ref m0), (1, .int (nI pc)), (2, .int 197), (5, .int (nI d))], [.int (nI d), .int (nI (by1 f (cb + pc + 3)))], M)) rfl rfl rfl ?_
          refine ps_if2 (S1 := (909, [], [], M)) (S2 := (905, [], [], M)) rfl rfl rfl (fun c_902 => ?_) (fun c_902 => ?_)
          · have c_902 : (nI d) < (nI (by1 f (cb + pc + 3))) := of_decide_eq_true c_902
            have n_902 : d < by1 f (cb + pc + 3) := (lt_nI (p := d) (n := by1 f (cb + pc + 3)) (by omega) (Nat.lt_trans (by1_lt _ _) (by decide))).mp c_902
            refine ps_st (S' := (910, [], [.int 0], M)) rfl rfl rfl ?_
            exact ps_ret rfl rfl (⟨congrArg (fun x => some (Value.int (nI x))) (show 0 = if tg f E (by2 f (cb + pc + 1)) = 7 ∧ 1 ≤ by1 f (cb + pc + 3) ∧ by1 f (cb + pc + 3) ≤ dmN (tX f n E (fi f E (by2 f (cb + pc + 1)))) then 1 else 0 from by
                have hdm : dmN (tX f n E (fi f E (by2 f (cb + pc + 1)))) = d := dm_of hd hb (Or.inl (by omega))
                have hd0 := dm_0 hcp.2
                first | ((repeat first | rw [if_pos (by omega)] | rw [if_neg (by omega)]) <;> first | rfl | omega) | ((repeat' split) <;> first | rfl | (exfalso; omega) | omega)), rfl⟩)
          · have c_902 : ¬ ((nI d) < (nI (by1 f (cb + pc + 3)))) := of_decide_eq_false c_902
            have n_902 : ¬ (d < by1 f (cb + pc + 3)) := fun h9 => c_902 ((lt_nI (p := d) (n := by1 f (cb + pc + 3)) (by omega) (Nat.lt_trans (by1_lt _ _) (by decide))).mpr h9)
            refine ps_st (S' := (906, [], [.int 1], M)) rfl rfl rfl ?_
            refine ps_st (S' := (910, [], [.int 1], M)) rfl rfl rfl ?_
            exact ps_ret rfl rfl (⟨congrArg (fun x => some (Value.int (nI x))) (show 1 = if tg f E (by2 f (cb + pc + 1)) = 7 ∧ 1 ≤ by1 f (cb + pc + 3) ∧ by1 f (cb + pc + 3) ≤ dmN (tX f n E (fi f E (by2 f (cb + pc + 1)))) then 1 else 0 from by
                have hdm : dmN (tX f n E (fi f E (by2 f (cb + pc + 1)))) = d := dm_of hd hb (Or.inl (by omega))
                have hd0 := dm_0 hcp.2
                first | ((repeat first | rw [if_pos (by omega)] | rw [if_neg (by omega)]) <;> first | rfl | omega) | ((repeat' split) <;> first | rfl | (exfalso; omega) | omega)), rfl⟩)
      · have c_814 : ¬ ((nI ((tX f n E (fi f E (by2 f (cb + pc + 1)))).length)) ≤ (nI d)) := of_decide_eq_false c_814
        have n_814 : ¬ ((tX f n E (fi f E (by2 f (cb + pc + 1)))).length ≤ d) := fun h9 => c_814 ((le_nI (p := (tX f n E (fi f E (by2 f (cb + pc + 1)))).length) (n := d) (by omega) (by omega)).mpr h9)
        refine ps_st (S' := (818, [(0, .ref m0), (1, .int (nI pc)), (2, .int 197), (4, .int (nI s)), (5, .int (nI d))], [.ref m0], M)) rfl rfl rfl ?_
        refine ps_st (S' := (820, [(0, .ref m0), (1, .int (nI pc)), (2, .int 197), (4, .int (nI s)), (5, .int (nI d))], [.int (nI s), .ref m0], M)) rfl rfl rfl ?_
        refine ps_st (S' := (822, [(0, .ref m0), (1, .int (nI pc)), (2, .int 197), (4, .int (nI s)), (5, .int (nI d))], [.int (nI d), .int (nI s), .ref m0], M)) rfl rfl rfl ?_
        refine pl_call (a := [.ref m0, .int (nI s), .int (nI d)]) (rest := []) rfl rfl rfl (rd_at (tx := tx) (cN := cN) (A := A) (s := s) (l := (tX f n E (fi f E (by2 f (cb + pc + 1))))) (k := d) hR hY (hs) (by omega)) (fun v10 M11 q12 => ?_)
        obtain ⟨rfl, rfl⟩ := q12
        show pl _ _ _ (825, [(0, .ref m0), (1, .int (nI pc)), (2, .int 197), (4, .int (nI s)), (5, .int (nI d))], [.int (nI ((tX f n E (fi f E (by2 f (cb + pc + 1)))).getD d 0))], M) _
        have hc_822 := hY.ch hs (k := d) (by omega)
        refine ps_st (S' := (827, [(0, .ref m0), (1, .int (nI pc)), (2, .int 197), (4, .int (nI s)), (5, .int (nI d))], [.int 91, .int (nI ((tX f n E (fi f E (by2 f (cb + pc + 1)))).getD d 0))], M)) rfl rfl rfl ?_
        refine ps_if2 (S1 := (836, [(0, .ref m0), (1, .int (nI pc)), (2, .int 197), (5, .int (nI d))], [], M)) (S2 := (830, [(0, .ref m0), (1, .int (nI pc)), (2, .int 197), (4, .int (nI s)), (5, .int (nI d))], [], M)) rfl rfl rfl (fun c_827 => ?_) (fun c_827 => ?_)
        · have c_827 : ¬ (nI ((tX f n E (fi f E (by2 f (cb + pc + 1)))).getD d 0)) = 91 := of_decide_eq_true c_827
          have n_827 : ¬ ((tX f n E (fi f E (by2 f (cb + pc + 1)))).getD d 0 = 91) := fun h9 => c_827 ((eq_nI (p := (tX f n E (fi f E (by2 f (cb + pc + 1)))).getD d 0) (n := 91) (Nat.lt_trans (tx_ch _ _ _ _ _) (by decide)) (by decide)).mpr h9)
          refine ps_st (S' := (837, [(0, .ref m0), (1, .int (nI pc)), (2, .int 197), (5, .int (nI d))], [.int 197], M)) rfl rfl rfl ?_
          refine ps_st (S' := (840, [(0, .ref m0), (1, .int (nI pc)), (2, .int 197), (5, .int (nI d))], [.int 187, .int 197], M)) rfl rfl rfl ?_
          refine ps_if2 (S1 := (854, [(0, .ref m0), (1, .int (nI pc)), (2, .int 197), (5, .int (nI d))], [], M)) (S2 := (843, [(0, .ref m0), (1, .int (nI pc)), (2, .int 197), (5, .int (nI d))], [], M)) rfl rfl rfl (fun c_840 => ?_) (fun c_840 => ?_)
          rotate_left
          · exact absurd (by decide) (of_decide_eq_false c_840)
          refine ps_st (S' := (855, [(0, .ref m0), (1, .int (nI pc)), (2, .int 197), (5, .int (nI d))], [.int 197], M)) rfl rfl rfl ?_
          refine ps_st (S' := (858, [(0, .ref m0), (1, .int (nI pc)), (2, .int 197), (5, .int (nI d))], [.int 189, .int 197], M)) rfl rfl rfl ?_
          refine ps_if2 (S1 := (875, [(0, .ref m0), (1, .int (nI pc)), (2, .int 197), (5, .int (nI d))], [], M)) (S2 := (861, [(0, .ref m0), (1, .int (nI pc)), (2, .int 197), (5, .int (nI d))], [], M)) rfl rfl rfl (fun c_858 => ?_) (fun c_858 => ?_)
          rotate_left
          · exact absurd (by decide) (of_decide_eq_false c_858)
          refine ps_st (S' := (876, [(0, .ref m0), (1, .int (nI pc)), (2, .int 197), (5, .int (nI d))], [.int 197], M)) rfl rfl rfl ?_
          refine ps_st (S' := (879, [(0, .ref m0), (1, .int (nI pc)), (2, .int 197), (5, .int (nI d))], [.int 197, .int 197], M)) rfl rfl rfl ?_
          refine ps_if2 (S1 := (905, [], [], M)) (S2 := (882, [(0, .ref m0), (1, .int (nI pc)), (2, .int 197), (5, .int (nI d))], [], M)) rfl rfl rfl (fun c_879 => ?_) (fun c_879 => ?_)
          · exact absurd (of_decide_eq_true c_879) (by decide)
          refine ps_st (S' := (883, [(0, .ref m0), (1, .int (nI pc)), (2, .int 197), (5, .int (nI d))], [.ref m0], M)) rfl rfl rfl ?_
          refine ps_st (S' := (884, [(0, .ref m0), (1, .int (nI pc)), (2, .int 197), (5, .int (nI d))], [.int (nI pc), .ref m0], M)) rfl rfl rfl ?_
          refine ps_st (S' := (885, [(0, .ref m0), (1, .int (nI pc)), (2, .int 197), (5, .int (nI d))], [.int 3, .int (nI pc), .ref m0], M)) rfl rfl rfl ?_
          refine ps_st (S' := (886, [(0, .ref m0), (1, .int (nI pc)), (2, .int 197), (5, .int (nI d))], [.int ((nI pc) + 3), .ref m0], M)) rfl rfl rfl ?_
          rw [nI_add1 (p := pc) (k := 3) (x := 3) rfl (by omega)]
          show pl _ _ _ (_, [(0, .ref m0), (1, .int (nI pc)), (2, .int 197), (5, .int (nI d))], [.int (nI (pc + 3)), .ref m0], M) _
          refine pl_call (a := [.ref m0, .int (nI (pc + 3))]) (rest := []) rfl rfl rfl (rd_b1 (n := n) (f := f) (cb := cb) (p := (pc + 3)) hR hi77 hF (by omega)) (fun v13 M14 q15 => ?_)
          obtain ⟨rfl, rfl⟩ := q15
          show pl _ _ _ (889, [(0, .ref m0), (1, .int (nI pc)), (2, .int 197), (5, .int (nI d))], [.int (nI (by1 f (cb + (pc + 3))))], M) _
          show pl _ _ _ (_, [(0, .ref m0), (1, .int (nI pc)), (2, .int 197), (5, .int (nI d))], [.int (nI (by1 f (cb + pc + 3)))], M) _
          have hb_886 := by1_lt f (cb + pc + 3)
          refine ps_st (S' := (890, [(0, .ref m0), (1, .int (nI pc)), (2, .int 197), (5, .int (nI d))], [.int 1, .int (nI (by1 f (cb + pc + 3)))], M)) rfl rfl rfl ?_
          refine ps_if2 (S1 := (909, [], [], M)) (S2 := (893, [(0, .ref m0), (1, .int (nI pc)), (2, .int 197), (5, .int (nI d))], [], M)) rfl rfl rfl (fun c_890 => ?_) (fun c_890 => ?_)
          · have c_890 : (nI (by1 f (cb + pc + 3))) < 1 := of_decide_eq_true c_890
            have n_890 : by1 f (cb + pc + 3) < 1 := (lt_nI (p := by1 f (cb + pc + 3)) (n := 1) (Nat.lt_trans (by1_lt _ _) (by decide)) (by decide)).mp c_890
            refine ps_st (S' := (910, [], [.int 0], M)) rfl rfl rfl ?_
            exact ps_ret rfl rfl (⟨congrArg (fun x => some (Value.int (nI x))) (show 0 = if tg f E (by2 f (cb + pc + 1)) = 7 ∧ 1 ≤ by1 f (cb + pc + 3) ∧ by1 f (cb + pc + 3) ≤ dmN (tX f n E (fi f E (by2 f (cb + pc + 1)))) then 1 else 0 from by
                have hdm : dmN (tX f n E (fi f E (by2 f (cb + pc + 1)))) = d := dm_of hd hb (Or.inr (by omega))
                have hd0 := dm_0 hcp.2
                first | ((repeat first | rw [if_pos (by omega)] | rw [if_neg (by omega)]) <;> first | rfl | omega) | ((repeat' split) <;> first | rfl | (exfalso; omega) | omega)), rfl⟩)
          · have c_890 : ¬ ((nI (by1 f (cb + pc + 3))) < 1) := of_decide_eq_false c_890
            have n_890 : ¬ (by1 f (cb + pc + 3) < 1) := fun h9 => c_890 ((lt_nI (p := by1 f (cb + pc + 3)) (n := 1) (Nat.lt_trans (by1_lt _ _) (by decide)) (by decide)).mpr h9)
            refine ps_st (S' := (894, [(0, .ref m0), (1, .int (nI pc)), (2, .int 197), (5, .int (nI d))], [.ref m0], M)) rfl rfl rfl ?_
            refine ps_st (S' := (895, [(0, .ref m0), (1, .int (nI pc)), (2, .int 197), (5, .int (nI d))], [.int (nI pc), .ref m0], M)) rfl rfl rfl ?_
            refine ps_st (S' := (896, [(0, .ref m0), (1, .int (nI pc)), (2, .int 197), (5, .int (nI d))], [.int 3, .int (nI pc), .ref m0], M)) rfl rfl rfl ?_
            refine ps_st (S' := (897, [(0, .ref m0), (1, .int (nI pc)), (2, .int 197), (5, .int (nI d))], [.int ((nI pc) + 3), .ref m0], M)) rfl rfl rfl ?_
            rw [nI_add1 (p := pc) (k := 3) (x := 3) rfl (by omega)]
            show pl _ _ _ (_, [(0, .ref m0), (1, .int (nI pc)), (2, .int 197), (5, .int (nI d))], [.int (nI (pc + 3)), .ref m0], M) _
            refine pl_call (a := [.ref m0, .int (nI (pc + 3))]) (rest := []) rfl rfl rfl (rd_b1 (n := n) (f := f) (cb := cb) (p := (pc + 3)) hR hi77 hF (by omega)) (fun v16 M17 q18 => ?_)
            obtain ⟨rfl, rfl⟩ := q18
            show pl _ _ _ (900, [(0, .ref m0), (1, .int (nI pc)), (2, .int 197), (5, .int (nI d))], [.int (nI (by1 f (cb + (pc + 3))))], M) _
            show pl _ _ _ (_, [(0, .ref m0), (1, .int (nI pc)), (2, .int 197), (5, .int (nI d))], [.int (nI (by1 f (cb + pc + 3)))], M) _
            have hb_897 := by1_lt f (cb + pc + 3)
            refine ps_st (S' := (902, [(0, .ref m0), (1, .int (nI pc)), (2, .int 197), (5, .int (nI d))], [.int (nI d), .int (nI (by1 f (cb + pc + 3)))], M)) rfl rfl rfl ?_
            refine ps_if2 (S1 := (909, [], [], M)) (S2 := (905, [], [], M)) rfl rfl rfl (fun c_902 => ?_) (fun c_902 => ?_)
            · have c_902 : (nI d) < (nI (by1 f (cb + pc + 3))) := of_decide_eq_true c_902
              have n_902 : d < by1 f (cb + pc + 3) := (lt_nI (p := d) (n := by1 f (cb + pc + 3)) (by omega) (Nat.lt_trans (by1_lt _ _) (by decide))).mp c_902
              refine ps_st (S' := (910, [], [.int 0], M)) rfl rfl rfl ?_
              exact ps_ret rfl rfl (⟨congrArg (fun x => some (Value.int (nI x))) (show 0 = if tg f E (by2 f (cb + pc + 1)) = 7 ∧ 1 ≤ by1 f (cb + pc + 3) ∧ by1 f (cb + pc + 3) ≤ dmN (tX f n E (fi f E (by2 f (cb + pc + 1)))) then 1 else 0 from by
                  have hdm : dmN (tX f n E (fi f E (by2 f (cb + pc + 1)))) = d := dm_of hd hb (Or.inr (by omega))
                  have hd0 := dm_0 hcp.2
                  first | ((repeat first | rw [if_pos (by omega)] | rw [if_neg (by omega)]) <;> first | rfl | omega) | ((repeat' split) <;> first | rfl | (exfalso; omega) | omega)), rfl⟩)
            · have c_902 : ¬ ((nI d) < (nI (by1 f (cb + pc + 3)))) := of_decide_eq_false c_902
              have n_902 : ¬ (d < by1 f (cb + pc + 3)) := fun h9 => c_902 ((lt_nI (p := d) (n := by1 f (cb + pc + 3)) (by omega) (Nat.lt_trans (by1_lt _ _) (by decide))).mpr h9)
              refine ps_st (S' := (906, [], [.int 1], M)) rfl rfl rfl ?_
              refine ps_st (S' := (910, [], [.int 1], M)) rfl rfl rfl ?_
              exact ps_ret rfl rfl (⟨congrArg (fun x => some (Value.int (nI x))) (show 1 = if tg f E (by2 f (cb + pc + 1)) = 7 ∧ 1 ≤ by1 f (cb + pc + 3) ∧ by1 f (cb + pc + 3) ≤ dmN (tX f n E (fi f E (by2 f (cb + pc + 1)))) then 1 else 0 from by
                  have hdm : dmN (tX f n E (fi f E (by2 f (cb + pc + 1)))) = d := dm_of hd hb (Or.inr (by omega))
                  have hd0 := dm_0 hcp.2
                  first | ((repeat first | rw [if_pos (by omega)] | rw [if_neg (by omega)]) <;> first | rfl | omega) | ((repeat' split) <;> first | rfl | (exfalso; omega) | omega)), rfl⟩)
        · have c_827 : ¬ (¬ (nI ((tX f n E (fi f E (by2 f (cb + pc + 1)))).getD d 0)) = 91) := of_decide_eq_false c_827
          have n_827 : (tX f n E (fi f E (by2 f (cb + pc + 1)))).getD d 0 = 91 := (eq_nI (p := (tX f n E (fi f E (by2 f (cb + pc + 1)))).getD d 0) (n := 91) (Nat.lt_trans (tx_ch _ _ _ _ _) (by decide)) (by decide)).mp (Decidable.not_not.mp c_827)
          refine ps_st (S' := (833, [(5, .int ((nI d) + 1)), (0, .ref m0), (1, .int (nI pc)), (2, .int 197), (4, .int (nI s))], [], M)) rfl rfl rfl ?_
          rw [nI_add1 (p := d) (k := 1) (x := 1) rfl (by omega)]
          show pl _ _ _ (_, [(5, .int (nI (d + 1))), (0, .ref m0), (1, .int (nI pc)), (2, .int 197), (4, .int (nI s))], [], M) _
          refine ps_st (S' := (806, [(0, .ref m0), (1, .int (nI pc)), (2, .int 197), (4, .int (nI s)), (5, .int (nI (d + 1)))], [], M)) rfl rfl rfl ?_
          exact ih (s) (d + 1)  (hs) (by omega) (fun i9 h9 => (by by_cases e9 : i9 = d; rw [e9]; omega; exact hb i9 (by omega))) (ht7)
  refine ps_st (S' := (1, [(0, .ref m0), (1, .int (nI pc)), (2, .int 197)], [.int 197], M)) rfl rfl rfl ?_
  refine ps_st (S' := (4, [(0, .ref m0), (1, .int (nI pc)), (2, .int 197)], [.int 168, .int 197], M)) rfl rfl rfl ?_
  refine ps_if2 (S1 := (21, [(0, .ref m0), (1, .int (nI pc)), (2, .int 197)], [], M)) (S2 := (7, [(0, .ref m0), (1, .int (nI pc)), (2, .int 197)], [], M)) rfl rfl rfl (fun c_4 => ?_) (fun c_4 => ?_)
  · exact absurd (of_decide_eq_true c_4) (by decide)
  refine ps_st (S' := (8, [(0, .ref m0), (1, .int (nI pc)), (2, .int 197)], [.int 197], M)) rfl rfl rfl ?_
  refine ps_st (S' := (11, [(0, .ref m0), (1, .int (nI pc)), (2, .int 197)], [.int 169, .int 197], M)) rfl rfl rfl ?_
  refine ps_if2 (S1 := (21, [(0, .ref m0), (1, .int (nI pc)), (2, .int 197)], [], M)) (S2 := (14, [(0, .ref m0), (1, .int (nI pc)), (2, .int 197)], [], M)) rfl rfl rfl (fun c_11 => ?_) (fun c_11 => ?_)
  · exact absurd (of_decide_eq_true c_11) (by decide)
  refine ps_st (S' := (15, [(0, .ref m0), (1, .int (nI pc)), (2, .int 197)], [.int 197], M)) rfl rfl rfl ?_
  refine ps_st (S' := (18, [(0, .ref m0), (1, .int (nI pc)), (2, .int 197)], [.int 201, .int 197], M)) rfl rfl rfl ?_
  refine ps_if2 (S1 := (58, [(0, .ref m0), (1, .int (nI pc)), (2, .int 197)], [], M)) (S2 := (21, [(0, .ref m0), (1, .int (nI pc)), (2, .int 197)], [], M)) rfl rfl rfl (fun c_18 => ?_) (fun c_18 => ?_)
  rotate_left
  · exact absurd (by decide) (of_decide_eq_false c_18)
  refine ps_st (S' := (59, [(0, .ref m0), (1, .int (nI pc)), (2, .int 197)], [.int 197], M)) rfl rfl rfl ?_
  refine ps_st (S' := (61, [(0, .ref m0), (1, .int (nI pc)), (2, .int 197)], [.int 21, .int 197], M)) rfl rfl rfl ?_
  refine ps_if2 (S1 := (70, [(0, .ref m0), (1, .int (nI pc)), (2, .int 197)], [], M)) (S2 := (64, [(0, .ref m0), (1, .int (nI pc)), (2, .int 197)], [], M)) rfl rfl rfl (fun c_61 => ?_) (fun c_61 => ?_)
  · exact absurd (of_decide_eq_true c_61) (by decide)
  refine ps_st (S' := (65, [(0, .ref m0), (1, .int (nI pc)), (2, .int 197)], [.int 197], M)) rfl rfl rfl ?_
  refine ps_st (S' := (67, [(0, .ref m0), (1, .int (nI pc)), (2, .int 197)], [.int 25, .int 197], M)) rfl rfl rfl ?_
  refine ps_if2 (S1 := (82, [(0, .ref m0), (1, .int (nI pc)), (2, .int 197)], [], M)) (S2 := (70, [(0, .ref m0), (1, .int (nI pc)), (2, .int 197)], [], M)) rfl rfl rfl (fun c_67 => ?_) (fun c_67 => ?_)
  · exact absurd (of_decide_eq_true c_67) (by decide)
  refine ps_st (S' := (71, [(0, .ref m0), (1, .int (nI pc)), (2, .int 197)], [.int 197], M)) rfl rfl rfl ?_
  refine ps_st (S' := (73, [(0, .ref m0), (1, .int (nI pc)), (2, .int 197)], [.int 54, .int 197], M)) rfl rfl rfl ?_
  refine ps_if2 (S1 := (127, [(0, .ref m0), (1, .int (nI pc)), (2, .int 197)], [], M)) (S2 := (76, [(0, .ref m0), (1, .int (nI pc)), (2, .int 197)], [], M)) rfl rfl rfl (fun c_73 => ?_) (fun c_73 => ?_)
  · exact absurd (of_decide_eq_true c_73) (by decide)
  refine ps_st (S' := (77, [(0, .ref m0), (1, .int (nI pc)), (2, .int 197)], [.int 197], M)) rfl rfl rfl ?_
  refine ps_st (S' := (79, [(0, .ref m0), (1, .int (nI pc)), (2, .int 197)], [.int 58, .int 197], M)) rfl rfl rfl ?_
  refine ps_if2 (S1 := (127, [(0, .ref m0), (1, .int (nI pc)), (2, .int 197)], [], M)) (S2 := (82, [(0, .ref m0), (1, .int (nI pc)), (2, .int 197)], [], M)) rfl rfl rfl (fun c_79 => ?_) (fun c_79 => ?_)
  rotate_left
  · exact absurd (by decide) (of_decide_eq_false c_79)
  refine ps_st (S' := (128, [(0, .ref m0), (1, .int (nI pc)), (2, .int 197)], [.int 197], M)) rfl rfl rfl ?_
  refine ps_st (S' := (130, [(0, .ref m0), (1, .int (nI pc)), (2, .int 197)], [.int 26, .int 197], M)) rfl rfl rfl ?_
  refine ps_if2 (S1 := (139, [(0, .ref m0), (1, .int (nI pc)), (2, .int 197)], [], M)) (S2 := (133, [(0, .ref m0), (1, .int (nI pc)), (2, .int 197)], [], M)) rfl rfl rfl (fun c_130 => ?_) (fun c_130 => ?_)
  · exact absurd (of_decide_eq_true c_130) (by decide)
  refine ps_st (S' := (134, [(0, .ref m0), (1, .int (nI pc)), (2, .int 197)], [.int 197], M)) rfl rfl rfl ?_
  refine ps_st (S' := (136, [(0, .ref m0), (1, .int (nI pc)), (2, .int 197)], [.int 45, .int 197], M)) rfl rfl rfl ?_
  refine ps_if2 (S1 := (151, [(0, .ref m0), (2, .int 197)], [], M)) (S2 := (139, [(0, .ref m0), (1, .int (nI pc)), (2, .int 197)], [], M)) rfl rfl rfl (fun c_136 => ?_) (fun c_136 => ?_)
  · exact absurd (of_decide_eq_true c_136) (by decide)
  refine ps_st (S' := (140, [(0, .ref m0), (1, .int (nI pc)), (2, .int 197)], [.int 197], M)) rfl rfl rfl ?_
  refine ps_st (S' := (142, [(0, .ref m0), (1, .int (nI pc)), (2, .int 197)], [.int 59, .int 197], M)) rfl rfl rfl ?_
  refine ps_if2 (S1 := (196, [(0, .ref m0), (1, .int (nI pc)), (2, .int 197)], [], M)) (S2 := (145, [(0, .ref m0), (1, .int (nI pc)), (2, .int 197)], [], M)) rfl rfl rfl (fun c_142 => ?_) (fun c_142 => ?_)
  · exact absurd (of_decide_eq_true c_142) (by decide)
  refine ps_st (S' := (146, [(0, .ref m0), (1, .int (nI pc)), (2, .int 197)], [.int 197], M)) rfl rfl rfl ?_
  refine ps_st (S' := (148, [(0, .ref m0), (1, .int (nI pc)), (2, .int 197)], [.int 78, .int 197], M)) rfl rfl rfl ?_
  refine ps_if2 (S1 := (196, [(0, .ref m0), (1, .int (nI pc)), (2, .int 197)], [], M)) (S2 := (151, [(0, .ref m0), (2, .int 197)], [], M)) rfl rfl rfl (fun c_148 => ?_) (fun c_148 => ?_)
  rotate_left
  · exact absurd (by decide) (of_decide_eq_false c_148)
  refine ps_st (S' := (197, [(0, .ref m0), (1, .int (nI pc)), (2, .int 197)], [.int 197], M)) rfl rfl rfl ?_
  refine ps_st (S' := (200, [(0, .ref m0), (1, .int (nI pc)), (2, .int 197)], [.int 132, .int 197], M)) rfl rfl rfl ?_
  refine ps_if2 (S1 := (216, [(0, .ref m0), (1, .int (nI pc)), (2, .int 197)], [], M)) (S2 := (203, [(0, .ref m0), (1, .int (nI pc)), (2, .int 197)], [], M)) rfl rfl rfl (fun c_200 => ?_) (fun c_200 => ?_)
  rotate_left
  · exact absurd (by decide) (of_decide_eq_false c_200)
  refine ps_st (S' := (217, [(0, .ref m0), (1, .int (nI pc)), (2, .int 197)], [.int 197], M)) rfl rfl rfl ?_
  refine ps_st (S' := (220, [(0, .ref m0), (1, .int (nI pc)), (2, .int 197)], [.int 196, .int 197], M)) rfl rfl rfl ?_
  refine ps_if2 (S1 := (296, [(0, .ref m0), (1, .int (nI pc)), (2, .int 197)], [], M)) (S2 := (223, [(0, .ref m0), (1, .int (nI pc)), (2, .int 197)], [], M)) rfl rfl rfl (fun c_220 => ?_) (fun c_220 => ?_)
  rotate_left
  · exact absurd (by decide) (of_decide_eq_false c_220)
  refine ps_st (S' := (297, [(0, .ref m0), (1, .int (nI pc)), (2, .int 197)], [.int 197], M)) rfl rfl rfl ?_
  refine ps_st (S' := (300, [(0, .ref m0), (1, .int (nI pc)), (2, .int 197)], [.int 188, .int 197], M)) rfl rfl rfl ?_
  refine ps_if2 (S1 := (332, [(0, .ref m0), (1, .int (nI pc)), (2, .int 197)], [], M)) (S2 := (303, [(0, .ref m0), (1, .int (nI pc)), (2, .int 197)], [], M)) rfl rfl rfl (fun c_300 => ?_) (fun c_300 => ?_)
  rotate_left
  · exact absurd (by decide) (of_decide_eq_false c_300)
  refine ps_st (S' := (333, [(0, .ref m0), (1, .int (nI pc)), (2, .int 197)], [.int 197], M)) rfl rfl rfl ?_
  refine ps_st (S' := (335, [(0, .ref m0), (1, .int (nI pc)), (2, .int 197)], [.int 18, .int 197], M)) rfl rfl rfl ?_
  refine ps_if2 (S1 := (513, [(0, .ref m0), (1, .int (nI pc)), (2, .int 197)], [], M)) (S2 := (338, [(0, .ref m0), (1, .int (nI pc)), (2, .int 197)], [], M)) rfl rfl rfl (fun c_335 => ?_) (fun c_335 => ?_)
  · exact absurd (of_decide_eq_true c_335) (by decide)
  refine ps_st (S' := (339, [(0, .ref m0), (1, .int (nI pc)), (2, .int 197)], [.int 197], M)) rfl rfl rfl ?_
  refine ps_st (S' := (341, [(0, .ref m0), (1, .int (nI pc)), (2, .int 197)], [.int 20, .int 197], M)) rfl rfl rfl ?_
  refine ps_if2 (S1 := (513, [(0, .ref m0), (1, .int (nI pc)), (2, .int 197)], [], M)) (S2 := (344, [(0, .ref m0), (1, .int (nI pc)), (2, .int 197)], [], M)) rfl rfl rfl (fun c_341 => ?_) (fun c_341 => ?_)
  rotate_left
  · exact absurd (by decide) (of_decide_eq_false c_341)
  refine ps_st (S' := (514, [(0, .ref m0), (1, .int (nI pc)), (2, .int 197)], [.int 197], M)) rfl rfl rfl ?_
  refine ps_st (S' := (517, [(0, .ref m0), (1, .int (nI pc)), (2, .int 197)], [.int 178, .int 197], M)) rfl rfl rfl ?_
  refine ps_if2 (S1 := (549, [(0, .ref m0), (1, .int (nI pc)), (2, .int 197)], [], M)) (S2 := (520, [(0, .ref m0), (1, .int (nI pc)), (2, .int 197)], [], M)) rfl rfl rfl (fun c_517 => ?_) (fun c_517 => ?_)
  · exact absurd (of_decide_eq_true c_517) (by decide)
  refine ps_st (S' := (521, [(0, .ref m0), (1, .int (nI pc)), (2, .int 197)], [.int 197], M)) rfl rfl rfl ?_
  refine ps_st (S' := (524, [(0, .ref m0), (1, .int (nI pc)), (2, .int 197)], [.int 181, .int 197], M)) rfl rfl rfl ?_
  refine ps_if2 (S1 := (549, [(0, .ref m0), (1, .int (nI pc)), (2, .int 197)], [], M)) (S2 := (527, [(0, .ref m0), (1, .int (nI pc)), (2, .int 197)], [], M)) rfl rfl rfl (fun c_524 => ?_) (fun c_524 => ?_)
  rotate_left
  · exact absurd (by decide) (of_decide_eq_false c_524)
  refine ps_st (S' := (550, [(0, .ref m0), (1, .int (nI pc)), (2, .int 197)], [.int 197], M)) rfl rfl rfl ?_
  refine ps_st (S' := (553, [(0, .ref m0), (1, .int (nI pc)), (2, .int 197)], [.int 182, .int 197], M)) rfl rfl rfl ?_
  refine ps_if2 (S1 := (692, [(0, .ref m0), (1, .int (nI pc)), (2, .int 197)], [], M)) (S2 := (556, [(0, .ref m0), (1, .int (nI pc)), (2, .int 197)], [], M)) rfl rfl rfl (fun c_553 => ?_) (fun c_553 => ?_)
  · exact absurd (of_decide_eq_true c_553) (by decide)
  refine ps_st (S' := (557, [(0, .ref m0), (1, .int (nI pc)), (2, .int 197)], [.int 197], M)) rfl rfl rfl ?_
  refine ps_st (S' := (560, [(0, .ref m0), (1, .int (nI pc)), (2, .int 197)], [.int 185, .int 197], M)) rfl rfl rfl ?_
  refine ps_if2 (S1 := (692, [(0, .ref m0), (1, .int (nI pc)), (2, .int 197)], [], M)) (S2 := (563, [(0, .ref m0), (1, .int (nI pc)), (2, .int 197)], [], M)) rfl rfl rfl (fun c_560 => ?_) (fun c_560 => ?_)
  rotate_left
  · exact absurd (by decide) (of_decide_eq_false c_560)
  refine ps_st (S' := (693, [(0, .ref m0), (1, .int (nI pc)), (2, .int 197)], [.int 197], M)) rfl rfl rfl ?_
  refine ps_st (S' := (696, [(0, .ref m0), (1, .int (nI pc)), (2, .int 197)], [.int 186, .int 197], M)) rfl rfl rfl ?_
  refine ps_if2 (S1 := (741, [(0, .ref m0), (1, .int (nI pc)), (2, .int 197)], [], M)) (S2 := (699, [(0, .ref m0), (1, .int (nI pc)), (2, .int 197)], [], M)) rfl rfl rfl (fun c_696 => ?_) (fun c_696 => ?_)
  rotate_left
  · exact absurd (by decide) (of_decide_eq_false c_696)
  refine ps_st (S' := (742, [(0, .ref m0), (1, .int (nI pc)), (2, .int 197)], [.int 197], M)) rfl rfl rfl ?_
  refine ps_st (S' := (745, [(0, .ref m0), (1, .int (nI pc)), (2, .int 197)], [.int 187, .int 197], M)) rfl rfl rfl ?_
  refine ps_if2 (S1 := (776, [(0, .ref m0), (1, .int (nI pc)), (2, .int 197)], [], M)) (S2 := (748, [(0, .ref m0), (1, .int (nI pc)), (2, .int 197)], [], M)) rfl rfl rfl (fun c_745 => ?_) (fun c_745 => ?_)
  · exact absurd (of_decide_eq_true c_745) (by decide)
  refine ps_st (S' := (749, [(0, .ref m0), (1, .int (nI pc)), (2, .int 197)], [.int 197], M)) rfl rfl rfl ?_
  refine ps_st (S' := (752, [(0, .ref m0), (1, .int (nI pc)), (2, .int 197)], [.int 189, .int 197], M)) rfl rfl rfl ?_
  refine ps_if2 (S1 := (776, [(0, .ref m0), (1, .int (nI pc)), (2, .int 197)], [], M)) (S2 := (755, [(0, .ref m0), (1, .int (nI pc)), (2, .int 197)], [], M)) rfl rfl rfl (fun c_752 => ?_) (fun c_752 => ?_)
  · exact absurd (of_decide_eq_true c_752) (by decide)
  refine ps_st (S' := (756, [(0, .ref m0), (1, .int (nI pc)), (2, .int 197)], [.int 197], M)) rfl rfl rfl ?_
  refine ps_st (S' := (759, [(0, .ref m0), (1, .int (nI pc)), (2, .int 197)], [.int 192, .int 197], M)) rfl rfl rfl ?_
  refine ps_if2 (S1 := (776, [(0, .ref m0), (1, .int (nI pc)), (2, .int 197)], [], M)) (S2 := (762, [(0, .ref m0), (1, .int (nI pc)), (2, .int 197)], [], M)) rfl rfl rfl (fun c_759 => ?_) (fun c_759 => ?_)
  · exact absurd (of_decide_eq_true c_759) (by decide)
  refine ps_st (S' := (763, [(0, .ref m0), (1, .int (nI pc)), (2, .int 197)], [.int 197], M)) rfl rfl rfl ?_
  refine ps_st (S' := (766, [(0, .ref m0), (1, .int (nI pc)), (2, .int 197)], [.int 193, .int 197], M)) rfl rfl rfl ?_
  refine ps_if2 (S1 := (776, [(0, .ref m0), (1, .int (nI pc)), (2, .int 197)], [], M)) (S2 := (769, [(0, .ref m0), (1, .int (nI pc)), (2, .int 197)], [], M)) rfl rfl rfl (fun c_766 => ?_) (fun c_766 => ?_)
  · exact absurd (of_decide_eq_true c_766) (by decide)
  refine ps_st (S' := (770, [(0, .ref m0), (1, .int (nI pc)), (2, .int 197)], [.int 197], M)) rfl rfl rfl ?_
  refine ps_st (S' := (773, [(0, .ref m0), (1, .int (nI pc)), (2, .int 197)], [.int 197, .int 197], M)) rfl rfl rfl ?_
  refine ps_if2 (S1 := (911, [(0, .ref m0), (1, .int (nI pc)), (2, .int 197)], [], M)) (S2 := (776, [(0, .ref m0), (1, .int (nI pc)), (2, .int 197)], [], M)) rfl rfl rfl (fun c_773 => ?_) (fun c_773 => ?_)
  · exact absurd (of_decide_eq_true c_773) (by decide)
  refine ps_st (S' := (777, [(0, .ref m0), (1, .int (nI pc)), (2, .int 197)], [.ref m0], M)) rfl rfl rfl ?_
  refine ps_st (S' := (778, [(0, .ref m0), (1, .int (nI pc)), (2, .int 197)], [.int (nI pc), .ref m0], M)) rfl rfl rfl ?_
  refine ps_st (S' := (779, [(0, .ref m0), (1, .int (nI pc)), (2, .int 197)], [.int 1, .int (nI pc), .ref m0], M)) rfl rfl rfl ?_
  refine ps_st (S' := (780, [(0, .ref m0), (1, .int (nI pc)), (2, .int 197)], [.int ((nI pc) + 1), .ref m0], M)) rfl rfl rfl ?_
  rw [nI_add1 (p := pc) (k := 1) (x := 1) rfl (by omega)]
  show pl _ _ _ (_, [(0, .ref m0), (1, .int (nI pc)), (2, .int 197)], [.int (nI (pc + 1)), .ref m0], M) _
  refine pl_call (a := [.ref m0, .int (nI (pc + 1))]) (rest := []) rfl rfl rfl (rd_b2 (n := n) (f := f) (cb := cb) (p := (pc + 1)) hR hi77 hF (by omega)) (fun v19 M20 q21 => ?_)
  obtain ⟨rfl, rfl⟩ := q21
  show pl _ _ _ (783, [(0, .ref m0), (1, .int (nI pc)), (2, .int 197)], [.int (nI (by2 f (cb + (pc + 1))))], M) _
  show pl _ _ _ (_, [(0, .ref m0), (1, .int (nI pc)), (2, .int 197)], [.int (nI (by2 f (cb + pc + 1)))], M) _
  have hb_780 := by2_lt f (cb + pc + 1)
  refine ps_st (S' := (784, [(3, .int (nI (by2 f (cb + pc + 1)))), (0, .ref m0), (1, .int (nI pc)), (2, .int 197)], [], M)) rfl rfl rfl ?_
  refine ps_st (S' := (785, [(3, .int (nI (by2 f (cb + pc + 1)))), (0, .ref m0), (1, .int (nI pc)), (2, .int 197)], [.ref m0], M)) rfl rfl rfl ?_
  refine ps_st (S' := (786, [(3, .int (nI (by2 f (cb + pc + 1)))), (0, .ref m0), (1, .int (nI pc)), (2, .int 197)], [.int (nI (by2 f (cb + pc + 1))), .ref m0], M)) rfl rfl rfl ?_
  refine pl_call (a := [.ref m0, .int (nI (by2 f (cb + pc + 1)))]) (rest := []) rfl rfl rfl (rd_tag (n := n) (f := f) (tx := tx) (cN := cN) (A := A) (N := N) (mj := mj) (E := E) (k := (by2 f (cb + pc + 1))) hR hi51 hi52 hi53 hF hY hP (hEP) (hN) (hmj) (by2_lt _ _)) (fun v22 M23 q24 => ?_)
  obtain ⟨rfl, rfl⟩ := q24
  show pl _ _ _ (789, [(3, .int (nI (by2 f (cb + pc + 1)))), (0, .ref m0), (1, .int (nI pc)), (2, .int 197)], [.int (nI (tg f E (by2 f (cb + pc + 1))))], M) _
  have htg_786 := tg_lt f E (by2 f (cb + pc + 1))
  refine ps_st (S' := (791, [(3, .int (nI (by2 f (cb + pc + 1)))), (0, .ref m0), (1, .int (nI pc)), (2, .int 197)], [.int 7, .int (nI (tg f E (by2 f (cb + pc + 1))))], M)) rfl rfl rfl ?_
  refine ps_if2 (S1 := (796, [(3, .int (nI (by2 f (cb + pc + 1)))), (0, .ref m0), (1, .int (nI pc)), (2, .int 197)], [], M)) (S2 := (794, [(3, .int (nI (by2 f (cb + pc + 1)))), (0, .ref m0), (1, .int (nI pc)), (2, .int 197)], [], M)) rfl rfl rfl (fun c_791 => ?_) (fun c_791 => ?_)
  · have c_791 : (nI (tg f E (by2 f (cb + pc + 1)))) = 7 := of_decide_eq_true c_791
    have n_791 : tg f E (by2 f (cb + pc + 1)) = 7 := (eq_nI (p := tg f E (by2 f (cb + pc + 1))) (n := 7) (Nat.lt_trans (tg_lt _ _ _) (by decide)) (by decide)).mp c_791
    refine ps_st (S' := (797, [(3, .int (nI (by2 f (cb + pc + 1)))), (0, .ref m0), (1, .int (nI pc)), (2, .int 197)], [.ref m0], M)) rfl rfl rfl ?_
    refine ps_st (S' := (798, [(3, .int (nI (by2 f (cb + pc + 1)))), (0, .ref m0), (1, .int (nI pc)), (2, .int 197)], [.int (nI (by2 f (cb + pc + 1))), .ref m0], M)) rfl rfl rfl ?_
    refine pl_call (a := [.ref m0, .int (nI (by2 f (cb + pc + 1)))]) (rest := []) rfl rfl rfl (rd_className (n := n) (f := f) (tx := tx) (cN := cN) (A := A) (N := N) (mj := mj) (E := E) (k := (by2 f (cb + pc + 1))) hR hi51 hi52 hi53 hF hY hP (hEP) (hN) (hmj) (⟨by omega, (hCP _ (by omega)).1⟩)) (fun v25 M26 q27 => ?_)
    obtain ⟨s28, q798_s, rfl, rfl⟩ := q27
    show pl _ _ _ (801, [(3, .int (nI (by2 f (cb + pc + 1)))), (0, .ref m0), (1, .int (nI pc)), (2, .int 197)], [.int (nI s28)], M) _
    have hsl_798 := q798_s.1
    have htl_798 := hY.1.2.2.1
    refine ps_st (S' := (803, [(4, .int (nI s28)), (3, .int (nI (by2 f (cb + pc + 1)))), (0, .ref m0), (1, .int (nI pc)), (2, .int 197)], [], M)) rfl rfl rfl ?_
    refine ps_st (S' := (804, [(4, .int (nI s28)), (3, .int (nI (by2 f (cb + pc + 1)))), (0, .ref m0), (1, .int (nI pc)), (2, .int 197)], [.int 0], M)) rfl rfl rfl ?_
    refine ps_st (S' := (806, [(0, .ref m0), (1, .int (nI pc)), (2, .int 197), (4, .int (nI s28)), (5, .int 0)], [], M)) rfl rfl rfl ?_
    exact (LL kf) (s28) (0)  (q798_s) (Nat.zero_le _) (fun i9 h9 => absurd h9 (Nat.not_lt_zero _)) (by omega)
  · have c_791 : ¬ ((nI (tg f E (by2 f (cb + pc + 1)))) = 7) := of_decide_eq_false c_791
    have n_791 : ¬ (tg f E (by2 f (cb + pc + 1)) = 7) := fun h9 => c_791 ((eq_nI (p := tg f E (by2 f (cb + pc + 1))) (n := 7) (Nat.lt_trans (tg_lt _ _ _) (by decide)) (by decide)).mpr h9)
    refine ps_st (S' := (795, [(3, .int (nI (by2 f (cb + pc + 1)))), (0, .ref m0), (1, .int (nI pc)), (2, .int 197)], [.int 0], M)) rfl rfl rfl ?_
    exact ps_ret rfl rfl (⟨congrArg (fun x => some (Value.int (nI x))) (show 0 = if tg f E (by2 f (cb + pc + 1)) = 7 ∧ 1 ≤ by1 f (cb + pc + 3) ∧ by1 f (cb + pc + 3) ≤ dmN (tX f n E (fi f E (by2 f (cb + pc + 1)))) then 1 else 0 from by
        first | ((repeat first | rw [if_pos (by omega)] | rw [if_neg (by omega)]) <;> first | rfl | omega) | ((repeat' split) <;> first | rfl | (exfalso; omega) | omega)), rfl⟩)
set_option maxHeartbeats 1000000 in
theorem rd_op1 {g : xe_G} {m0 : Nat} {q : Nat → Nat} {z : Nat × Nat} {I : rI} {R : rR} {M : mi_H} {n : Nat} {f : Nat → Int32} {tx : List (List Nat)} {cN : Nat} {A : Nat → Nat} {N mj : Nat} {E : List (Nat × Nat)} {cb ml s9 pc : Nat} {op : Nat} (hR : RS g m0 q z I R M) (hi51 : I 51 = some 0) (hi52 : I 52 = some (nI N)) (hi53 : I 53 = some (nI mj)) (hi77 : I 77 = some (nI cb)) (hi79 : I 79 = some (nI ml)) (hi9 : I 9 = some (nI s9)) (hF : FK n f I R) (hY : SYT tx cN A I R) (hP : RPV f n E tx N I R) (hEP : EP f n E) (hN : N < 65536) (hmj : mj < 65536) (hml : ml < 65536) (hs9 : s9 < tx.length ∧ tx.getD s9 [] = ltx 14) (hCP : CP f n E) (hPF : PF f n E) (hin : cb + pc + 1 ≤ n) (ho : op ≤ 201 ∧ ¬ (18 ≤ op ∧ op ≤ 45) ∧ ¬ (54 ≤ op ∧ op ≤ 78) ∧ ¬ op = 132 ∧ ¬ op = 168 ∧ ¬ op = 169 ∧ ¬ (178 ≤ op ∧ op ≤ 189) ∧ ¬ op = 192 ∧ ¬ op = 193 ∧ ¬ op = 196 ∧ ¬ op = 197 ∧ ¬ op = 201) : pt (mT g) 228 [.ref m0, .int (nI pc), .int (nI op)] M (fun v M' => (v = some (.int (nI (1))) ∧ M = M')) := by
  refine pt_in (b := mb_228 g) rfl (fun kf => ?_)
  show pl (mT g) kf (mb_228 g).2 (0, [(0, .ref m0), (1, .int (nI pc)), (2, .int (nI op))], [], M) _
  have hn := hF.1
  have htl := hY.1.2.2.1
  refine ps_st (S' := (1, [(0, .ref m0), (1, .int (nI pc)), (2, .int (nI op))], [.int (nI op)], M)) rfl rfl rfl ?_
  refine ps_st (S' := (4, [(0, .ref m0), (1, .int (nI pc)), (2, .int (nI op))], [.int 168, .int (nI op)], M)) rfl rfl rfl ?_
  refine ps_if2 (S1 := (21, [(0, .ref m0), (1, .int (nI pc)), (2, .int (nI op))], [], M)) (S2 := (7, [(0, .ref m0), (1, .int (nI pc)), (2, .int (nI op))], [], M)) rfl rfl rfl (fun c_4 => ?_) (fun c_4 => ?_)
  · exact absurd (of_decide_eq_true c_4) (show ¬ ((nI op) = 168) from fun h9 => absurd ((eq_nI (p := op) (n := 168) (by omega) (by decide)).mp h9) (by omega))
  refine ps_st (S' := (8, [(0, .ref m0), (1, .int (nI pc)), (2, .int (nI op))], [.int (nI op)], M)) rfl rfl rfl ?_
  refine ps_st (S' := (11, [(0, .ref m0), (1, .int (nI pc)), (2, .int (nI op))], [.int 169, .int (nI op)], M)) rfl rfl rfl ?_
  refine ps_if2 (S1 := (21, [(0, .ref m0), (1, .int (nI pc)), (2, .int (nI op))], [], M)) (S2 := (14, [(0, .ref m0), (1, .int (nI pc)), (2, .int (nI op))], [], M)) rfl rfl rfl (fun c_11 => ?_) (fun c_11 => ?_)
  · exact absurd (of_decide_eq_true c_11) (show ¬ ((nI op) = 169) from fun h9 => absurd ((eq_nI (p := op) (n := 169) (by omega) (by decide)).mp h9) (by omega))
  refine ps_st (S' := (15, [(0, .ref m0), (1, .int (nI pc)), (2, .int (nI op))], [.int (nI op)], M)) rfl rfl rfl ?_
  refine ps_st (S' := (18, [(0, .ref m0), (1, .int (nI pc)), (2, .int (nI op))], [.int 201, .int (nI op)], M)) rfl rfl rfl ?_
  refine ps_if2 (S1 := (58, [(0, .ref m0), (1, .int (nI pc)), (2, .int (nI op))], [], M)) (S2 := (21, [(0, .ref m0), (1, .int (nI pc)), (2, .int (nI op))], [], M)) rfl rfl rfl (fun c_18 => ?_) (fun c_18 => ?_)
  rotate_left
  · exact absurd (show ¬ ((nI op) = 201) from fun h9 => absurd ((eq_nI (p := op) (n := 201) (by omega) (by decide)).mp h9) (by omega)) (of_decide_eq_false c_18)
  refine ps_st (S' := (59, [(0, .ref m0), (1, .int (nI pc)), (2, .int (nI op))], [.int (nI op)], M)) rfl rfl rfl ?_
  refine ps_st (S' := (61, [(0, .ref m0), (1, .int (nI pc)), (2, .int (nI op))], [.int 21, .int (nI op)], M)) rfl rfl rfl ?_
  refine ps_if2 (S1 := (70, [(0, .ref m0), (1, .int (nI pc)), (2, .int (nI op))], [], M)) (S2 := (64, [(0, .ref m0), (1, .int (nI pc)), (2, .int (nI op))], [], M)) rfl rfl rfl (fun c_61 => ?_) (fun c_61 => ?_)
  · have c_61 : (nI op) < 21 := of_decide_eq_true c_61
    have n_61 : op < 21 := (lt_nI (p := op) (n := 21) (by omega) (by decide)).mp c_61
    refine ps_st (S' := (71, [(0, .ref m0), (1, .int (nI pc)), (2, .int (nI op))], [.int (nI op)], M)) rfl rfl rfl ?_
    refine ps_st (S' := (73, [(0, .ref m0), (1, .int (nI pc)), (2, .int (nI op))], [.int 54, .int (nI op)], M)) rfl rfl rfl ?_
    refine ps_if2 (S1 := (127, [(0, .ref m0), (1, .int (nI pc)), (2, .int (nI op))], [], M)) (S2 := (76, [(0, .ref m0), (1, .int (nI pc)), (2, .int (nI op))], [], M)) rfl rfl rfl (fun c_73 => ?_) (fun c_73 => ?_)
    rotate_left
    · exact absurd ((lt_nI (p := op) (n := 54) (by omega) (by decide)).mpr (by omega)) (of_decide_eq_false c_73)
    refine ps_st (S' := (128, [(0, .ref m0), (1, .int (nI pc)), (2, .int (nI op))], [.int (nI op)], M)) rfl rfl rfl ?_
    refine ps_st (S' := (130, [(0, .ref m0), (1, .int (nI pc)), (2, .int (nI op))], [.int 26, .int (nI op)], M)) rfl rfl rfl ?_
    refine ps_if2 (S1 := (139, [(0, .ref m0), (1, .int (nI pc)), (2, .int (nI op))], [], M)) (S2 := (133, [(0, .ref m0), (1, .int (nI pc)), (2, .int (nI op))], [], M)) rfl rfl rfl (fun c_130 => ?_) (fun c_130 => ?_)
    rotate_left
    · exact absurd ((lt_nI (p := op) (n := 26) (by omega) (by decide)).mpr (by omega)) (of_decide_eq_false c_130)
    refine ps_st (S' := (140, [(0, .ref m0), (1, .int (nI pc)), (2, .int (nI op))], [.int (nI op)], M)) rfl rfl rfl ?_
    refine ps_st (S' := (142, [(0, .ref m0), (1, .int (nI pc)), (2, .int (nI op))], [.int 59, .int (nI op)], M)) rfl rfl rfl ?_
    refine ps_if2 (S1 := (196, [(0, .ref m0), (1, .int (nI pc)), (2, .int (nI op))], [], M)) (S2 := (145, [(0, .ref m0), (1, .int (nI pc)), (2, .int (nI op))], [], M)) rfl rfl rfl (fun c_142 => ?_) (fun c_142 => ?_)
    rotate_left
    · exact absurd ((lt_nI (p := op) (n := 59) (by omega) (by decide)).mpr (by omega)) (of_decide_eq_false c_142)
    refine ps_st (S' := (197, [(0, .ref m0), (1, .int (nI pc)), (2, .int (nI op))], [.int (nI op)], M)) rfl rfl rfl ?_
    refine ps_st (S' := (200, [(0, .ref m0), (1, .int (nI pc)), (2, .int (nI op))], [.int 132, .int (nI op)], M)) rfl rfl rfl ?_
    refine ps_if2 (S1 := (216, [(0, .ref m0), (1, .int (nI pc)), (2, .int (nI op))], [], M)) (S2 := (203, [(0, .ref m0), (1, .int (nI pc)), (2, .int (nI op))], [], M)) rfl rfl rfl (fun c_200 => ?_) (fun c_200 => ?_)
    rotate_left
    · exact absurd (show ¬ ((nI op) = 132) from fun h9 => absurd ((eq_nI (p := op) (n := 132) (by omega) (by decide)).mp h9) (by omega)) (of_decide_eq_false c_200)
    refine ps_st (S' := (217, [(0, .ref m0), (1, .int (nI pc)), (2, .int (nI op))], [.int (nI op)], M)) rfl rfl rfl ?_
    refine ps_st (S' := (220, [(0, .ref m0), (1, .int (nI pc)), (2, .int (nI op))], [.int 196, .int (nI op)], M)) rfl rfl rfl ?_
    refine ps_if2 (S1 := (296, [(0, .ref m0), (1, .int (nI pc)), (2, .int (nI op))], [], M)) (S2 := (223, [(0, .ref m0), (1, .int (nI pc)), (2, .int (nI op))], [], M)) rfl rfl rfl (fun c_220 => ?_) (fun c_220 => ?_)
    rotate_left
    · exact absurd (show ¬ ((nI op) = 196) from fun h9 => absurd ((eq_nI (p := op) (n := 196) (by omega) (by decide)).mp h9) (by omega)) (of_decide_eq_false c_220)
    refine ps_st (S' := (297, [(0, .ref m0), (1, .int (nI pc)), (2, .int (nI op))], [.int (nI op)], M)) rfl rfl rfl ?_
    refine ps_st (S' := (300, [(0, .ref m0), (1, .int (nI pc)), (2, .int (nI op))], [.int 188, .int (nI op)], M)) rfl rfl rfl ?_
    refine ps_if2 (S1 := (332, [(0, .ref m0), (1, .int (nI pc)), (2, .int (nI op))], [], M)) (S2 := (303, [(0, .ref m0), (1, .int (nI pc)), (2, .int (nI op))], [], M)) rfl rfl rfl (fun c_300 => ?_) (fun c_300 => ?_)
    rotate_left
    · exact absurd (show ¬ ((nI op) = 188) from fun h9 => absurd ((eq_nI (p := op) (n := 188) (by omega) (by decide)).mp h9) (by omega)) (of_decide_eq_false c_300)
    refine ps_st (S' := (333, [(0, .ref m0), (1, .int (nI pc)), (2, .int (nI op))], [.int (nI op)], M)) rfl rfl rfl ?_
    refine ps_st (S' := (335, [(0, .ref m0), (1, .int (nI pc)), (2, .int (nI op))], [.int 18, .int (nI op)], M)) rfl rfl rfl ?_
    refine ps_if2 (S1 := (513, [(0, .ref m0), (1, .int (nI pc)), (2, .int (nI op))], [], M)) (S2 := (338, [(0, .ref m0), (1, .int (nI pc)), (2, .int (nI op))], [], M)) rfl rfl rfl (fun c_335 => ?_) (fun c_335 => ?_)
    rotate_left
    · exact absurd ((lt_nI (p := op) (n := 18) (by omega) (by decide)).mpr (by omega)) (of_decide_eq_false c_335)
    refine ps_st (S' := (514, [(0, .ref m0), (1, .int (nI pc)), (2, .int (nI op))], [.int (nI op)], M)) rfl rfl rfl ?_
    refine ps_st (S' := (517, [(0, .ref m0), (1, .int (nI pc)), (2, .int (nI op))], [.int 178, .int (nI op)], M)) rfl rfl rfl ?_
    refine ps_if2 (S1 := (549, [(0, .ref m0), (1, .int (nI pc)), (2, .int (nI op))], [], M)) (S2 := (520, [(0, .ref m0), (1, .int (nI pc)), (2, .int (nI op))], [], M)) rfl rfl rfl (fun c_517 => ?_) (fun c_517 => ?_)
    rotate_left
    · exact absurd ((lt_nI (p := op) (n := 178) (by omega) (by decide)).mpr (by omega)) (of_decide_eq_false c_517)
    refine ps_st (S' := (550, [(0, .ref m0), (1, .int (nI pc)), (2, .int (nI op))], [.int (nI op)], M)) rfl rfl rfl ?_
    refine ps_st (S' := (553, [(0, .ref m0), (1, .int (nI pc)), (2, .int (nI op))], [.int 182, .int (nI op)], M)) rfl rfl rfl ?_
    refine ps_if2 (S1 := (692, [(0, .ref m0), (1, .int (nI pc)), (2, .int (nI op))], [], M)) (S2 := (556, [(0, .ref m0), (1, .int (nI pc)), (2, .int (nI op))], [], M)) rfl rfl rfl (fun c_553 => ?_) (fun c_553 => ?_)
    rotate_left
    · exact absurd ((lt_nI (p := op) (n := 182) (by omega) (by decide)).mpr (by omega)) (of_decide_eq_false c_553)
    refine ps_st (S' := (693, [(0, .ref m0), (1, .int (nI pc)), (2, .int (nI op))], [.int (nI op)], M)) rfl rfl rfl ?_
    refine ps_st (S' := (696, [(0, .ref m0), (1, .int (nI pc)), (2, .int (nI op))], [.int 186, .int (nI op)], M)) rfl rfl rfl ?_
    refine ps_if2 (S1 := (741, [(0, .ref m0), (1, .int (nI pc)), (2, .int (nI op))], [], M)) (S2 := (699, [(0, .ref m0), (1, .int (nI pc)), (2, .int (nI op))], [], M)) rfl rfl rfl (fun c_696 => ?_) (fun c_696 => ?_)
    rotate_left
    · exact absurd (show ¬ ((nI op) = 186) from fun h9 => absurd ((eq_nI (p := op) (n := 186) (by omega) (by decide)).mp h9) (by omega)) (of_decide_eq_false c_696)
    refine ps_st (S' := (742, [(0, .ref m0), (1, .int (nI pc)), (2, .int (nI op))], [.int (nI op)], M)) rfl rfl rfl ?_
    refine ps_st (S' := (745, [(0, .ref m0), (1, .int (nI pc)), (2, .int (nI op))], [.int 187, .int (nI op)], M)) rfl rfl rfl ?_
    refine ps_if2 (S1 := (776, [(0, .ref m0), (1, .int (nI pc)), (2, .int (nI op))], [], M)) (S2 := (748, [(0, .ref m0), (1, .int (nI pc)), (2, .int (nI op))], [], M)) rfl rfl rfl (fun c_745 => ?_) (fun c_745 => ?_)
    · exact absurd (of_decide_eq_true c_745) (show ¬ ((nI op) = 187) from fun h9 => absurd ((eq_nI (p := op) (n := 187) (by omega) (by decide)).mp h9) (by omega))
    refine ps_st (S' := (749, [(0, .ref m0), (1, .int (nI pc)), (2, .int (nI op))], [.int (nI op)], M)) rfl rfl rfl ?_
    refine ps_st (S' := (752, [(0, .ref m0), (1, .int (nI pc)), (2, .int (nI op))], [.int 189, .int (nI op)], M)) rfl rfl rfl ?_
    refine ps_if2 (S1 := (776, [(0, .ref m0), (1, .int (nI pc)), (2, .int (nI op))], [], M)) (S2 := (755, [(0, .ref m0), (1, .int (nI pc)), (2, .int (nI op))], [], M)) rfl rfl rfl (fun c_752 => ?_) (fun c_752 => ?_)
    · exact absurd (of_decide_eq_true c_752) (show ¬ ((nI op) = 189) from fun h9 => absurd ((eq_nI (p := op) (n := 189) (by omega) (by decide)).mp h9) (by omega))
    refine ps_st (S' := (756, [(0, .ref m0), (1, .int (nI pc)), (2, .int (nI op))], [.int (nI op)], M)) rfl rfl rfl ?_
    refine ps_st (S' := (759, [(0, .ref m0), (1, .int (nI pc)), (2, .int (nI op))], [.int 192, .int (nI op)], M)) rfl rfl rfl ?_
    refine ps_if2 (S1 := (776, [(0, .ref m0), (1, .int (nI pc)), (2, .int (nI op))], [], M)) (S2 := (762, [(0, .ref m0), (1, .int (nI pc)), (2, .int (nI op))], [], M)) rfl rfl rfl (fun c_759 => ?_) (fun c_759 => ?_)
    · exact absurd (of_decide_eq_true c_759) (show ¬ ((nI op) = 192) from fun h9 => absurd ((eq_nI (p := op) (n := 192) (by omega) (by decide)).mp h9) (by omega))
    refine ps_st (S' := (763, [(0, .ref m0), (1, .int (nI pc)), (2, .int (nI op))], [.int (nI op)], M)) rfl rfl rfl ?_
    refine ps_st (S' := (766, [(0, .ref m0), (1, .int (nI pc)), (2, .int (nI op))], [.int 193, .int (nI op)], M)) rfl rfl rfl ?_
    refine ps_if2 (S1 := (776, [(0, .ref m0), (1, .int (nI pc)), (2, .int (nI op))], [], M)) (S2 := (769, [(0, .ref m0), (1, .int (nI pc)), (2, .int (nI op))], [], M)) rfl rfl rfl (fun c_766 => ?_) (fun c_766 => ?_)
    · exact absurd (of_decide_eq_true c_766) (show ¬ ((nI op) = 193) from fun h9 => absurd ((eq_nI (p := op) (n := 193) (by omega) (by decide)).mp h9) (by omega))
    refine ps_st (S' := (770, [(0, .ref m0), (1, .int (nI pc)), (2, .int (nI op))], [.int (nI op)], M)) rfl rfl rfl ?_
    refine ps_st (S' := (773, [(0, .ref m0), (1, .int (nI pc)), (2, .int (nI op))], [.int 197, .int (nI op)], M)) rfl rfl rfl ?_
    refine ps_if2 (S1 := (911, [(0, .ref m0), (1, .int (nI pc)), (2, .int (nI op))], [], M)) (S2 := (776, [(0, .ref m0), (1, .int (nI pc)), (2, .int (nI op))], [], M)) rfl rfl rfl (fun c_773 => ?_) (fun c_773 => ?_)
    rotate_left
    · exact absurd (show ¬ ((nI op) = 197) from fun h9 => absurd ((eq_nI (p := op) (n := 197) (by omega) (by decide)).mp h9) (by omega)) (of_decide_eq_false c_773)
    refine ps_st (S' := (912, [(0, .ref m0), (1, .int (nI pc)), (2, .int (nI op))], [.int 1], M)) rfl rfl rfl ?_
    exact ps_ret rfl rfl (⟨congrArg (fun x => some (Value.int (nI x))) (show 1 = 1 from rfl), rfl⟩)
  · have c_61 : ¬ ((nI op) < 21) := of_decide_eq_false c_61
    have n_61 : ¬ (op < 21) := fun h9 => c_61 ((lt_nI (p := op) (n := 21) (by omega) (by decide)).mpr h9)
    refine ps_st (S' := (65, [(0, .ref m0), (1, .int (nI pc)), (2, .int (nI op))], [.int (nI op)], M)) rfl rfl rfl ?_
    refine ps_st (S' := (67, [(0, .ref m0), (1, .int (nI pc)), (2, .int (nI op))], [.int 25, .int (nI op)], M)) rfl rfl rfl ?_
    refine ps_if2 (S1 := (82, [(0, .ref m0), (1, .int (nI pc)), (2, .int (nI op))], [], M)) (S2 := (70, [(0, .ref m0), (1, .int (nI pc)), (2, .int (nI op))], [], M)) rfl rfl rfl (fun c_67 => ?_) (fun c_67 => ?_)
    · exact absurd (of_decide_eq_true c_67) (show ¬ ((nI op) ≤ 25) from fun h9 => absurd ((le_nI (p := op) (n := 25) (by omega) (by decide)).mp h9) (by omega))
    refine ps_st (S' := (71, [(0, .ref m0), (1, .int (nI pc)), (2, .int (nI op))], [.int (nI op)], M)) rfl rfl rfl ?_
    refine ps_st (S' := (73, [(0, .ref m0), (1, .int (nI pc)), (2, .int (nI op))], [.int 54, .int (nI op)], M)) rfl rfl rfl ?_
    refine ps_if2 (S1 := (127, [(0, .ref m0), (1, .int (nI pc)), (2, .int (nI op))], [], M)) (S2 := (76, [(0, .ref m0), (1, .int (nI pc)), (2, .int (nI op))], [], M)) rfl rfl rfl (fun c_73 => ?_) (fun c_73 => ?_)
    · have c_73 : (nI op) < 54 := of_decide_eq_true c_73
      have n_73 : op < 54 := (lt_nI (p := op) (n := 54) (by omega) (by decide)).mp c_73
      refine ps_st (S' := (128, [(0, .ref m0), (1, .int (nI pc)), (2, .int (nI op))], [.int (nI op)], M)) rfl rfl rfl ?_
      refine ps_st (S' := (130, [(0, .ref m0), (1, .int (nI pc)), (2, .int (nI op))], [.int 26, .int (nI op)], M)) rfl rfl rfl ?_
      refine ps_if2 (S1 := (139, [(0, .ref m0), (1, .int (nI pc)), (2, .int (nI op))], [], M)) (S2 := (133, [(0, .ref m0), (1, .int (nI pc)), (2, .int (nI op))], [], M)) rfl rfl rfl (fun c_130 => ?_) (fun c_130 => ?_)
      · exact absurd (of_decide_eq_true c_130) (show ¬ ((nI op) < 26) from fun h9 => absurd ((lt_nI (p := op) (n := 26) (by omega) (by decide)).mp h9) (by omega))
      refine ps_st (S' := (134, [(0, .ref m0), (1, .int (nI pc)), (2, .int (nI op))], [.int (nI op)], M)) rfl rfl rfl ?_
      refine ps_st (S' := (136, [(0, .ref m0), (1, .int (nI pc)), (2, .int (nI op))], [.int 45, .int (nI op)], M)) rfl rfl rfl ?_
      refine ps_if2 (S1 := (151, [(0, .ref m0), (2, .int (nI op))], [], M)) (S2 := (139, [(0, .ref m0), (1, .int (nI pc)), (2, .int (nI op))], [], M)) rfl rfl rfl (fun c_136 => ?_) (fun c_136 => ?_)
      · exact absurd (of_decide_eq_true c_136) (show ¬ ((nI op) ≤ 45) from fun h9 => absurd ((le_nI (p := op) (n := 45) (by omega) (by decide)).mp h9) (by omega))
      refine ps_st (S' := (140, [(0, .ref m0), (1, .int (nI pc)), (2, .int (nI op))], [.int (nI op)], M)) rfl rfl rfl ?_
      refine ps_st (S' := (142, [(0, .ref m0), (1, .int (nI pc)), (2, .int (nI op))], [.int 59, .int (nI op)], M)) rfl rfl rfl ?_
      refine ps_if2 (S1 := (196, [(0, .ref m0), (1, .int (nI pc)), (2, .int (nI op))], [], M)) (S2 := (145, [(0, .ref m0), (1, .int (nI pc)), (2, .int (nI op))], [], M)) rfl rfl rfl (fun c_142 => ?_) (fun c_142 => ?_)
      rotate_left
      · exact absurd ((lt_nI (p := op) (n := 59) (by omega) (by decide)).mpr (by omega)) (of_decide_eq_false c_142)
      refine ps_st (S' := (197, [(0, .ref m0), (1, .int (nI pc)), (2, .int (nI op))], [.int (nI op)], M)) rfl rfl rfl ?_
      refine ps_st (S' := (200, [(0, .ref m0), (1, .int (nI pc)), (2, .int (nI op))], [.int 132, .int (nI op)], M)) rfl rfl rfl ?_
      refine ps_if2 (S1 := (216, [(0, .ref m0), (1, .int (nI pc)), (2, .int (nI op))], [], M)) (S2 := (203, [(0, .ref m0), (1, .int (nI pc)), (2, .int (nI op))], [], M)) rfl rfl rfl (fun c_200 => ?_) (fun c_200 => ?_)
      rotate_left
      · exact absurd (show ¬ ((nI op) = 132) from fun h9 => absurd ((eq_nI (p := op) (n := 132) (by omega) (by decide)).mp h9) (by omega)) (of_decide_eq_false c_200)
      refine ps_st (S' := (217, [(0, .ref m0), (1, .int (nI pc)), (2, .int (nI op))], [.int (nI op)], M)) rfl rfl rfl ?_
      refine ps_st (S' := (220, [(0, .ref m0), (1, .int (nI pc)), (2, .int (nI op))], [.int 196, .int (nI op)], M)) rfl rfl rfl ?_
      refine ps_if2 (S1 := (296, [(0, .ref m0), (1, .int (nI pc)), (2, .int (nI op))], [], M)) (S2 := (223, [(0, .ref m0), (1, .int (nI pc)), (2, .int (nI op))], [], M)) rfl rfl rfl (fun c_220 => ?_) (fun c_220 => ?_)
      rotate_left
      · exact absurd (show ¬ ((nI op) = 196) from fun h9 => absurd ((eq_nI (p := op) (n := 196) (by omega) (by decide)).mp h9) (by omega)) (of_decide_eq_false c_220)
      refine ps_st (S' := (297, [(0, .ref m0), (1, .int (nI pc)), (2, .int (nI op))], [.int (nI op)], M)) rfl rfl rfl ?_
      refine ps_st (S' := (300, [(0, .ref m0), (1, .int (nI pc)), (2, .int (nI op))], [.int 188, .int (nI op)], M)) rfl rfl rfl ?_
      refine ps_if2 (S1 := (332, [(0, .ref m0), (1, .int (nI pc)), (2, .int (nI op))], [], M)) (S2 := (303, [(0, .ref m0), (1, .int (nI pc)), (2, .int (nI op))], [], M)) rfl rfl rfl (fun c_300 => ?_) (fun c_300 => ?_)
      rotate_left
      · exact absurd (show ¬ ((nI op) = 188) from fun h9 => absurd ((eq_nI (p := op) (n := 188) (by omega) (by decide)).mp h9) (by omega)) (of_decide_eq_false c_300)
      refine ps_st (S' := (333, [(0, .ref m0), (1, .int (nI pc)), (2, .int (nI op))], [.int (nI op)], M)) rfl rfl rfl ?_
      refine ps_st (S' := (335, [(0, .ref m0), (1, .int (nI pc)), (2, .int (nI op))], [.int 18, .int (nI op)], M)) rfl rfl rfl ?_
      refine ps_if2 (S1 := (513, [(0, .ref m0), (1, .int (nI pc)), (2, .int (nI op))], [], M)) (S2 := (338, [(0, .ref m0), (1, .int (nI pc)), (2, .int (nI op))], [], M)) rfl rfl rfl (fun c_335 => ?_) (fun c_335 => ?_)
      · exact absurd (of_decide_eq_true c_335) (show ¬ ((nI op) < 18) from fun h9 => absurd ((lt_nI (p := op) (n := 18) (by omega) (by decide)).mp h9) (by omega))
      refine ps_st (S' := (339, [(0, .ref m0), (1, .int (nI pc)), (2, .int (nI op))], [.int (nI op)], M)) rfl rfl rfl ?_
      refine ps_st (S' := (341, [(0, .ref m0), (1, .int (nI pc)), (2, .int (nI op))], [.int 20, .int (nI op)], M)) rfl rfl rfl ?_
      refine ps_if2 (S1 := (513, [(0, .ref m0), (1, .int (nI pc)), (2, .int (nI op))], [], M)) (S2 := (344, [(0, .ref m0), (1, .int (nI pc)), (2, .int (nI op))], [], M)) rfl rfl rfl (fun c_341 => ?_) (fun c_341 => ?_)
      rotate_left
      · exact absurd ((lt_nI (p := 20) (n := op) (by decide) (by omega)).mpr (by omega)) (of_decide_eq_false c_341)
      refine ps_st (S' := (514, [(0, .ref m0), (1, .int (nI pc)), (2, .int (nI op))], [.int (nI op)], M)) rfl rfl rfl ?_
      refine ps_st (S' := (517, [(0, .ref m0), (1, .int (nI pc)), (2, .int (nI op))], [.int 178, .int (nI op)], M)) rfl rfl rfl ?_
      refine ps_if2 (S1 := (549, [(0, .ref m0), (1, .int (nI pc)), (2, .int (nI op))], [], M)) (S2 := (520, [(0, .ref m0), (1, .int (nI pc)), (2, .int (nI op))], [], M)) rfl rfl rfl (fun c_517 => ?_) (fun c_517 => ?_)
      rotate_left
      · exact absurd ((lt_nI (p := op) (n := 178) (by omega) (by decide)).mpr (by omega)) (of_decide_eq_false c_517)
      refine ps_st (S' := (550, [(0, .ref m0), (1, .int (nI pc)), (2, .int (nI op))], [.int (nI op)], M)) rfl rfl rfl ?_
      refine ps_st (S' := (553, [(0, .ref m0), (1, .int (nI pc)), (2, .int (nI op))], [.int 182, .int (nI op)], M)) rfl rfl rfl ?_
      refine ps_if2 (S1 := (692, [(0, .ref m0), (1, .int (nI pc)), (2, .int (nI op))], [], M)) (S2 := (556, [(0, .ref m0), (1, .int (nI pc)), (2, .int (nI op))], [], M)) rfl rfl rfl (fun c_553 => ?_) (fun c_553 => ?_)
      rotate_left
      · exact absurd ((lt_nI (p := op) (n := 182) (by omega) (by decide)).mpr (by omega)) (of_decide_eq_false c_553)
      refine ps_st (S' := (693, [(0, .ref m0), (1, .int (nI pc)), (2, .int (nI op))], [.int (nI op)], M)) rfl rfl rfl ?_
      refine ps_st (S' := (696, [(0, .ref m0), (1, .int (nI pc)), (2, .int (nI op))], [.int 186, .int (nI op)], M)) rfl rfl rfl ?_
      refine ps_if2 (S1 := (741, [(0, .ref m0), (1, .int (nI pc)), (2, .int (nI op))], [], M)) (S2 := (699, [(0, .ref m0), (1, .int (nI pc)), (2, .int (nI op))], [], M)) rfl rfl rfl (fun c_696 => ?_) (fun c_696 => ?_)
      rotate_left
      · exact absurd (show ¬ ((nI op) = 186) from fun h9 => absurd ((eq_nI (p := op) (n := 186) (by omega) (by decide)).mp h9) (by omega)) (of_decide_eq_false c_696)
      refine ps_st (S' := (742, [(0, .ref m0), (1, .int (nI pc)), (2, .int (nI op))], [.int (nI op)], M)) rfl rfl rfl ?_
      refine ps_st (S' := (745, [(0, .ref m0), (1, .int (nI pc)), (2, .int (nI op))], [.int 187, .int (nI op)], M)) rfl rfl rfl ?_
      refine ps_if2 (S1 := (776, [(0, .ref m0), (1, .int (nI pc)), (2, .int (nI op))], [], M)) (S2 := (748, [(0, .ref m0), (1, .int (nI pc)), (2, .int (nI op))], [], M)) rfl rfl rfl (fun c_745 => ?_) (fun c_745 => ?_)
      · exact absurd (of_decide_eq_true c_745) (show ¬ ((nI op) = 187) from fun h9 => absurd ((eq_nI (p := op) (n := 187) (by omega) (by decide)).mp h9) (by omega))
      refine ps_st (S' := (749, [(0, .ref m0), (1, .int (nI pc)), (2, .int (nI op))], [.int (nI op)], M)) rfl rfl rfl ?_
      refine ps_st (S' := (752, [(0, .ref m0), (1, .int (nI pc)), (2, .int (nI op))], [.int 189, .int (nI op)], M)) rfl rfl rfl ?_
      refine ps_if2 (S1 := (776, [(0, .ref m0), (1, .int (nI pc)), (2, .int (nI op))], [], M)) (S2 := (755, [(0, .ref m0), (1, .int (nI pc)), (2, .int (nI op))], [], M)) rfl rfl rfl (fun c_752 => ?_) (fun c_752 => ?_)
      · exact absurd (of_decide_eq_true c_752) (show ¬ ((nI op) = 189) from fun h9 => absurd ((eq_nI (p := op) (n := 189) (by omega) (by decide)).mp h9) (by omega))
      refine ps_st (S' := (756, [(0, .ref m0), (1, .int (nI pc)), (2, .int (nI op))], [.int (nI op)], M)) rfl rfl rfl ?_
      refine ps_st (S' := (759, [(0, .ref m0), (1, .int (nI pc)), (2, .int (nI op))], [.int 192, .int (nI op)], M)) rfl rfl rfl ?_
      refine ps_if2 (S1 := (776, [(0, .ref m0), (1, .int (nI pc)), (2, .int (nI op))], [], M)) (S2 := (762, [(0, .ref m0), (1, .int (nI pc)), (2, .int (nI op))], [], M)) rfl rfl rfl (fun c_759 => ?_) (fun c_759 => ?_)
      · exact absurd (of_decide_eq_true c_759) (show ¬ ((nI op) = 192) from fun h9 => absurd ((eq_nI (p := op) (n := 192) (by omega) (by decide)).mp h9) (by omega))
      refine ps_st (S' := (763, [(0, .ref m0), (1, .int (nI pc)), (2, .int (nI op))], [.int (nI op)], M)) rfl rfl rfl ?_
      refine ps_st (S' := (766, [(0, .ref m0), (1, .int (nI pc)), (2, .int (nI op))], [.int 193, .int (nI op)], M)) rfl rfl rfl ?_
      refine ps_if2 (S1 := (776, [(0, .ref m0), (1, .int (nI pc)), (2, .int (nI op))], [], M)) (S2 := (769, [(0, .ref m0), (1, .int (nI pc)), (2, .int (nI op))], [], M)) rfl rfl rfl (fun c_766 => ?_) (fun c_766 => ?_)
      · exact absurd (of_decide_eq_true c_766) (show ¬ ((nI op) = 193) from fun h9 => absurd ((eq_nI (p := op) (n := 193) (by omega) (by decide)).mp h9) (by omega))
      refine ps_st (S' := (770, [(0, .ref m0), (1, .int (nI pc)), (2, .int (nI op))], [.int (nI op)], M)) rfl rfl rfl ?_
      refine ps_st (S' := (773, [(0, .ref m0), (1, .int (nI pc)), (2, .int (nI op))], [.int 197, .int (nI op)], M)) rfl rfl rfl ?_
      refine ps_if2 (S1 := (911, [(0, .ref m0), (1, .int (nI pc)), (2, .int (nI op))], [], M)) (S2 := (776, [(0, .ref m0), (1, .int (nI pc)), (2, .int (nI op))], [], M)) rfl rfl rfl (fun c_773 => ?_) (fun c_773 => ?_)
      rotate_left
      · exact absurd (show ¬ ((nI op) = 197) from fun h9 => absurd ((eq_nI (p := op) (n := 197) (by omega) (by decide)).mp h9) (by omega)) (of_decide_eq_false c_773)
      refine ps_st (S' := (912, [(0, .ref m0), (1, .int (nI pc)), (2, .int (nI op))], [.int 1], M)) rfl rfl rfl ?_
      exact ps_ret rfl rfl (⟨congrArg (fun x => some (Value.int (nI x))) (show 1 = 1 from rfl), rfl⟩)
    · have c_73 : ¬ ((nI op) < 54) := of_decide_eq_false c_73
      have n_73 : ¬ (op < 54) := fun h9 => c_73 ((lt_nI (p := op) (n := 54) (by omega) (by decide)).mpr h9)
      refine ps_st (S' := (77, [(0, .ref m0), (1, .int (nI pc)), (2, .int (nI op))], [.int (nI op)], M)) rfl rfl rfl ?_
      refine ps_st (S' := (79, [(0, .ref m0), (1, .int (nI pc)), (2, .int (nI op))], [.int 58, .int (nI op)], M)) rfl rfl rfl ?_
      refine ps_if2 (S1 := (127, [(0, .ref m0), (1, .int (nI pc)), (2, .int (nI op))], [], M)) (S2 := (82, [(0, .ref m0), (1, .int (nI pc)), (2, .int (nI op))], [], M)) rfl rfl rfl (fun c_79 => ?_) (fun c_79 => ?_)
      rotate_left
      · exact absurd ((lt_nI (p := 58) (n := op) (by decide) (by omega)).mpr (by omega)) (of_decide_eq_false c_79)
      refine ps_st (S' := (128, [(0, .ref m0), (1, .int (nI pc)), (2, .int (nI op))], [.int (nI op)], M)) rfl rfl rfl ?_
      refine ps_st (S' := (130, [(0, .ref m0), (1, .int (nI pc)), (2, .int (nI op))], [.int 26, .int (nI op)], M)) rfl rfl rfl ?_
      refine ps_if2 (S1 := (139, [(0, .ref m0), (1, .int (nI pc)), (2, .int (nI op))], [], M)) (S2 := (133, [(0, .ref m0), (1, .int (nI pc)), (2, .int (nI op))], [], M)) rfl rfl rfl (fun c_130 => ?_) (fun c_130 => ?_)
      · exact absurd (of_decide_eq_true c_130) (show ¬ ((nI op) < 26) from fun h9 => absurd ((lt_nI (p := op) (n := 26) (by omega) (by decide)).mp h9) (by omega))
      refine ps_st (S' := (134, [(0, .ref m0), (1, .int (nI pc)), (2, .int (nI op))], [.int (nI op)], M)) rfl rfl rfl ?_
      refine ps_st (S' := (136, [(0, .ref m0), (1, .int (nI pc)), (2, .int (nI op))], [.int 45, .int (nI op)], M)) rfl rfl rfl ?_
      refine ps_if2 (S1 := (151, [(0, .ref m0), (2, .int (nI op))], [], M)) (S2 := (139, [(0, .ref m0), (1, .int (nI pc)), (2, .int (nI op))], [], M)) rfl rfl rfl (fun c_136 => ?_) (fun c_136 => ?_)
      · exact absurd (of_decide_eq_true c_136) (show ¬ ((nI op) ≤ 45) from fun h9 => absurd ((le_nI (p := op) (n := 45) (by omega) (by decide)).mp h9) (by omega))
      refine ps_st (S' := (140, [(0, .ref m0), (1, .int (nI pc)), (2, .int (nI op))], [.int (nI op)], M)) rfl rfl rfl ?_
      refine ps_st (S' := (142, [(0, .ref m0), (1, .int (nI pc)), (2, .int (nI op))], [.int 59, .int (nI op)], M)) rfl rfl rfl ?_
      refine ps_if2 (S1 := (196, [(0, .ref m0), (1, .int (nI pc)), (2, .int (nI op))], [], M)) (S2 := (145, [(0, .ref m0), (1, .int (nI pc)), (2, .int (nI op))], [], M)) rfl rfl rfl (fun c_142 => ?_) (fun c_142 => ?_)
      · exact absurd (of_decide_eq_true c_142) (show ¬ ((nI op) < 59) from fun h9 => absurd ((lt_nI (p := op) (n := 59) (by omega) (by decide)).mp h9) (by omega))
      refine ps_st (S' := (146, [(0, .ref m0), (1, .int (nI pc)), (2, .int (nI op))], [.int (nI op)], M)) rfl rfl rfl ?_
      refine ps_st (S' := (148, [(0, .ref m0), (1, .int (nI pc)), (2, .int (nI op))], [.int 78, .int (nI op)], M)) rfl rfl rfl ?_
      refine ps_if2 (S1 := (196, [(0, .ref m0), (1, .int (nI pc)), (2, .int (nI op))], [], M)) (S2 := (151, [(0, .ref m0), (2, .int (nI op))], [], M)) rfl rfl rfl (fun c_148 => ?_) (fun c_148 => ?_)
      rotate_left
      · exact absurd ((lt_nI (p := 78) (n := op) (by decide) (by omega)).mpr (by omega)) (of_decide_eq_false c_148)
      refine ps_st (S' := (197, [(0, .ref m0), (1, .int (nI pc)), (2, .int (nI op))], [.int (nI op)], M)) rfl rfl rfl ?_
      refine ps_st (S' := (200, [(0, .ref m0), (1, .int (nI pc)), (2, .int (nI op))], [.int 132, .int (nI op)], M)) rfl rfl rfl ?_
      refine ps_if2 (S1 := (216, [(0, .ref m0), (1, .int (nI pc)), (2, .int (nI op))], [], M)) (S2 := (203, [(0, .ref m0), (1, .int (nI pc)), (2, .int (nI op))], [], M)) rfl rfl rfl (fun c_200 => ?_) (fun c_200 => ?_)
      rotate_left
      · exact absurd (show ¬ ((nI op) = 132) from fun h9 => absurd ((eq_nI (p := op) (n := 132) (by omega) (by decide)).mp h9) (by omega)) (of_decide_eq_false c_200)
      refine ps_st (S' := (217, [(0, .ref m0), (1, .int (nI pc)), (2, .int (nI op))], [.int (nI op)], M)) rfl rfl rfl ?_
      refine ps_st (S' := (220, [(0, .ref m0), (1, .int (nI pc)), (2, .int (nI op))], [.int 196, .int (nI op)], M)) rfl rfl rfl ?_
      refine ps_if2 (S1 := (296, [(0, .ref m0), (1, .int (nI pc)), (2, .int (nI op))], [], M)) (S2 := (223, [(0, .ref m0), (1, .int (nI pc)), (2, .int (nI op))], [], M)) rfl rfl rfl (fun c_220 => ?_) (fun c_220 => ?_)
      rotate_left
      · exact absurd (show ¬ ((nI op) = 196) from fun h9 => absurd ((eq_nI (p := op) (n := 196) (by omega) (by decide)).mp h9) (by omega)) (of_decide_eq_false c_220)
      refine ps_st (S' := (297, [(0, .ref m0), (1, .int (nI pc)), (2, .int (nI op))], [.int (nI op)], M)) rfl rfl rfl ?_
      refine ps_st (S' := (300, [(0, .ref m0), (1, .int (nI pc)), (2, .int (nI op))], [.int 188, .int (nI op)], M)) rfl rfl rfl ?_
      refine ps_if2 (S1 := (332, [(0, .ref m0), (1, .int (nI pc)), (2, .int (nI op))], [], M)) (S2 := (303, [(0, .ref m0), (1, .int (nI pc)), (2, .int (nI op))], [], M)) rfl rfl rfl (fun c_300 => ?_) (fun c_300 => ?_)
      rotate_left
      · exact absurd (show ¬ ((nI op) = 188) from fun h9 => absurd ((eq_nI (p := op) (n := 188) (by omega) (by decide)).mp h9) (by omega)) (of_decide_eq_false c_300)
      refine ps_st (S' := (333, [(0, .ref m0), (1, .int (nI pc)), (2, .int (nI op))], [.int (nI op)], M)) rfl rfl rfl ?_
      refine ps_st (S' := (335, [(0, .ref m0), (1, .int (nI pc)), (2, .int (nI op))], [.int 18, .int (nI op)], M)) rfl rfl rfl ?_
      refine ps_if2 (S1 := (513, [(0, .ref m0), (1, .int (nI pc)), (2, .int (nI op))], [], M)) (S2 := (338, [(0, .ref m0), (1, .int (nI pc)), (2, .int (nI op))], [], M)) rfl rfl rfl (fun c_335 => ?_) (fun c_335 => ?_)
      · exact absurd (of_decide_eq_true c_335) (show ¬ ((nI op) < 18) from fun h9 => absurd ((lt_nI (p := op) (n := 18) (by omega) (by decide)).mp h9) (by omega))
      refine ps_st (S' := (339, [(0, .ref m0), (1, .int (nI pc)), (2, .int (nI op))], [.int (nI op)], M)) rfl rfl rfl ?_
      refine ps_st (S' := (341, [(0, .ref m0), (1, .int (nI pc)), (2, .int (nI op))], [.int 20, .int (nI op)], M)) rfl rfl rfl ?_
      refine ps_if2 (S1 := (513, [(0, .ref m0), (1, .int (nI pc)), (2, .int (nI op))], [], M)) (S2 := (344, [(0, .ref m0), (1, .int (nI pc)), (2, .int (nI op))], [], M)) rfl rfl rfl (fun c_341 => ?_) (fun c_341 => ?_)
      rotate_left
      · exact absurd ((lt_nI (p := 20) (n := op) (by decide) (by omega)).mpr (by omega)) (of_decide_eq_false c_341)
      refine ps_st (S' := (514, [(0, .ref m0), (1, .int (nI pc)), (2, .int (nI op))], [.int (nI op)], M)) rfl rfl rfl ?_
      refine ps_st (S' := (517, [(0, .ref m0), (1, .int (nI pc)), (2, .int (nI op))], [.int 178, .int (nI op)], M)) rfl rfl rfl ?_
      refine ps_if2 (S1 := (549, [(0, .ref m0), (1, .int (nI pc)), (2, .int (nI op))], [], M)) (S2 := (520, [(0, .ref m0), (1, .int (nI pc)), (2, .int (nI op))], [], M)) rfl rfl rfl (fun c_517 => ?_) (fun c_517 => ?_)
      · have c_517 : (nI op) < 178 := of_decide_eq_true c_517
        have n_517 : op < 178 := (lt_nI (p := op) (n := 178) (by omega) (by decide)).mp c_517
        refine ps_st (S' := (550, [(0, .ref m0), (1, .int (nI pc)), (2, .int (nI op))], [.int (nI op)], M)) rfl rfl rfl ?_
        refine ps_st (S' := (553, [(0, .ref m0), (1, .int (nI pc)), (2, .int (nI op))], [.int 182, .int (nI op)], M)) rfl rfl rfl ?_
        refine ps_if2 (S1 := (692, [(0, .ref m0), (1, .int (nI pc)), (2, .int (nI op))], [], M)) (S2 := (556, [(0, .ref m0), (1, .int (nI pc)), (2, .int (nI op))], [], M)) rfl rfl rfl (fun c_553 => ?_) (fun c_553 => ?_)
        rotate_left
        · exact absurd ((lt_nI (p := op) (n := 182) (by omega) (by decide)).mpr (by omega)) (of_decide_eq_false c_553)
        refine ps_st (S' := (693, [(0, .ref m0), (1, .int (nI pc)), (2, .int (nI op))], [.int (nI op)], M)) rfl rfl rfl ?_
        refine ps_st (S' := (696, [(0, .ref m0), (1, .int (nI pc)), (2, .int (nI op))], [.int 186, .int (nI op)], M)) rfl rfl rfl ?_
        refine ps_if2 (S1 := (741, [(0, .ref m0), (1, .int (nI pc)), (2, .int (nI op))], [], M)) (S2 := (699, [(0, .ref m0), (1, .int (nI pc)), (2, .int (nI op))], [], M)) rfl rfl rfl (fun c_696 => ?_) (fun c_696 => ?_)
        rotate_left
        · exact absurd (show ¬ ((nI op) = 186) from fun h9 => absurd ((eq_nI (p := op) (n := 186) (by omega) (by decide)).mp h9) (by omega)) (of_decide_eq_false c_696)
        refine ps_st (S' := (742, [(0, .ref m0), (1, .int (nI pc)), (2, .int (nI op))], [.int (nI op)], M)) rfl rfl rfl ?_
        refine ps_st (S' := (745, [(0, .ref m0), (1, .int (nI pc)), (2, .int (nI op))], [.int 187, .int (nI op)], M)) rfl rfl rfl ?_
        refine ps_if2 (S1 := (776, [(0, .ref m0), (1, .int (nI pc)), (2, .int (nI op))], [], M)) (S2 := (748, [(0, .ref m0), (1, .int (nI pc)), (2, .int (nI op))], [], M)) rfl rfl rfl (fun c_745 => ?_) (fun c_745 => ?_)
        · exact absurd (of_decide_eq_true c_745) (show ¬ ((nI op) = 187) from fun h9 => absurd ((eq_nI (p := op) (n := 187) (by omega) (by decide)).mp h9) (by omega))
        refine ps_st (S' := (749, [(0, .ref m0), (1, .int (nI pc)), (2, .int (nI op))], [.int (nI op)], M)) rfl rfl rfl ?_
        refine ps_st (S' := (752, [(0, .ref m0), (1, .int (nI pc)), (2, .int (nI op))], [.int 189, .int (nI op)], M)) rfl rfl rfl ?_
        refine ps_if2 (S1 := (776, [(0, .ref m0), (1, .int (nI pc)), (2, .int (nI op))], [], M)) (S2 := (755, [(0, .ref m0), (1, .int (nI pc)), (2, .int (nI op))], [], M)) rfl rfl rfl (fun c_752 => ?_) (fun c_752 => ?_)
        · exact absurd (of_decide_eq_true c_752) (show ¬ ((nI op) = 189) from fun h9 => absurd ((eq_nI (p := op) (n := 189) (by omega) (by decide)).mp h9) (by omega))
        refine ps_st (S' := (756, [(0, .ref m0), (1, .int (nI pc)), (2, .int (nI op))], [.int (nI op)], M)) rfl rfl rfl ?_
        refine ps_st (S' := (759, [(0, .ref m0), (1, .int (nI pc)), (2, .int (nI op))], [.int 192, .int (nI op)], M)) rfl rfl rfl ?_
        refine ps_if2 (S1 := (776, [(0, .ref m0), (1, .int (nI pc)), (2, .int (nI op))], [], M)) (S2 := (762, [(0, .ref m0), (1, .int (nI pc)), (2, .int (nI op))], [], M)) rfl rfl rfl (fun c_759 => ?_) (fun c_759 => ?_)
        · exact absurd (of_decide_eq_true c_759) (show ¬ ((nI op) = 192) from fun h9 => absurd ((eq_nI (p := op) (n := 192) (by omega) (by decide)).mp h9) (by omega))
        refine ps_st (S' := (763, [(0, .ref m0), (1, .int (nI pc)), (2, .int (nI op))], [.int (nI op)], M)) rfl rfl rfl ?_
        refine ps_st (S' := (766, [(0, .ref m0), (1, .int (nI pc)), (2, .int (nI op))], [.int 193, .int (nI op)], M)) rfl rfl rfl ?_
        refine ps_if2 (S1 := (776, [(0, .ref m0), (1, .int (nI pc)), (2, .int (nI op))], [], M)) (S2 := (769, [(0, .ref m0), (1, .int (nI pc)), (2, .int (nI op))], [], M)) rfl rfl rfl (fun c_766 => ?_) (fun c_766 => ?_)
        · exact absurd (of_decide_eq_true c_766) (show ¬ ((nI op) = 193) from fun h9 => absurd ((eq_nI (p := op) (n := 193) (by omega) (by decide)).mp h9) (by omega))
        refine ps_st (S' := (770, [(0, .ref m0), (1, .int (nI pc)), (2, .int (nI op))], [.int (nI op)], M)) rfl rfl rfl ?_
        refine ps_st (S' := (773, [(0, .ref m0), (1, .int (nI pc)), (2, .int (nI op))], [.int 197, .int (nI op)], M)) rfl rfl rfl ?_
        refine ps_if2 (S1 := (911, [(0, .ref m0), (1, .int (nI pc)), (2, .int (nI op))], [], M)) (S2 := (776, [(0, .ref m0), (1, .int (nI pc)), (2, .int (nI op))], [], M)) rfl rfl rfl (fun c_773 => ?_) (fun c_773 => ?_)
        rotate_left
        · exact absurd (show ¬ ((nI op) = 197) from fun h9 => absurd ((eq_nI (p := op) (n := 197) (by omega) (by decide)).mp h9) (by omega)) (of_decide_eq_false c_773)
        refine ps_st (S' := (912, [(0, .ref m0), (1, .int (nI pc)), (2, .int (nI op))], [.int 1], M)) rfl rfl rfl ?_
        exact ps_ret rfl rfl (⟨congrArg (fun x => some (Value.int (nI x))) (show 1 = 1 from rfl), rfl⟩)
      · have c_517 : ¬ ((nI op) < 178) := of_decide_eq_false c_517
        have n_517 : ¬ (op < 178) := fun h9 => c_517 ((lt_nI (p := op) (n := 178) (by omega) (by decide)).mpr h9)
        refine ps_st (S' := (521, [(0, .ref m0), (1, .int (nI pc)), (2, .int (nI op))], [.int (nI op)], M)) rfl rfl rfl ?_
        refine ps_st (S' := (524, [(0, .ref m0), (1, .int (nI pc)), (2, .int (nI op))], [.int 181, .int (nI op)], M)) rfl rfl rfl ?_
        refine ps_if2 (S1 := (549, [(0, .ref m0), (1, .int (nI pc)), (2, .int (nI op))], [], M)) (S2 := (527, [(0, .ref m0), (1, .int (nI pc)), (2, .int (nI op))], [], M)) rfl rfl rfl (fun c_524 => ?_) (fun c_524 => ?_)
        rotate_left
        · exact absurd ((lt_nI (p := 181) (n := op) (by decide) (by omega)).mpr (by omega)) (of_decide_eq_false c_524)
        refine ps_st (S' := (550, [(0, .ref m0), (1, .int (nI pc)), (2, .int (nI op))], [.int (nI op)], M)) rfl rfl rfl ?_
        refine ps_st (S' := (553, [(0, .ref m0), (1, .int (nI pc)), (2, .int (nI op))], [.int 182, .int (nI op)], M)) rfl rfl rfl ?_
        refine ps_if2 (S1 := (692, [(0, .ref m0), (1, .int (nI pc)), (2, .int (nI op))], [], M)) (S2 := (556, [(0, .ref m0), (1, .int (nI pc)), (2, .int (nI op))], [], M)) rfl rfl rfl (fun c_553 => ?_) (fun c_553 => ?_)
        · exact absurd (of_decide_eq_true c_553) (show ¬ ((nI op) < 182) from fun h9 => absurd ((lt_nI (p := op) (n := 182) (by omega) (by decide)).mp h9) (by omega))
        refine ps_st (S' := (557, [(0, .ref m0), (1, .int (nI pc)), (2, .int (nI op))], [.int (nI op)], M)) rfl rfl rfl ?_
        refine ps_st (S' := (560, [(0, .ref m0), (1, .int (nI pc)), (2, .int (nI op))], [.int 185, .int (nI op)], M)) rfl rfl rfl ?_
        refine ps_if2 (S1 := (692, [(0, .ref m0), (1, .int (nI pc)), (2, .int (nI op))], [], M)) (S2 := (563, [(0, .ref m0), (1, .int (nI pc)), (2, .int (nI op))], [], M)) rfl rfl rfl (fun c_560 => ?_) (fun c_560 => ?_)
        rotate_left
        · exact absurd ((lt_nI (p := 185) (n := op) (by decide) (by omega)).mpr (by omega)) (of_decide_eq_false c_560)
        refine ps_st (S' := (693, [(0, .ref m0), (1, .int (nI pc)), (2, .int (nI op))], [.int (nI op)], M)) rfl rfl rfl ?_
        refine ps_st (S' := (696, [(0, .ref m0), (1, .int (nI pc)), (2, .int (nI op))], [.int 186, .int (nI op)], M)) rfl rfl rfl ?_
        refine ps_if2 (S1 := (741, [(0, .ref m0), (1, .int (nI pc)), (2, .int (nI op))], [], M)) (S2 := (699, [(0, .ref m0), (1, .int (nI pc)), (2, .int (nI op))], [], M)) rfl rfl rfl (fun c_696 => ?_) (fun c_696 => ?_)
        rotate_left
        · exact absurd (show ¬ ((nI op) = 186) from fun h9 => absurd ((eq_nI (p := op) (n := 186) (by omega) (by decide)).mp h9) (by omega)) (of_decide_eq_false c_696)
        refine ps_st (S' := (742, [(0, .ref m0), (1, .int (nI pc)), (2, .int (nI op))], [.int (nI op)], M)) rfl rfl rfl ?_
        refine ps_st (S' := (745, [(0, .ref m0), (1, .int (nI pc)), (2, .int (nI op))], [.int 187, .int (nI op)], M)) rfl rfl rfl ?_
        refine ps_if2 (S1 := (776, [(0, .ref m0), (1, .int (nI pc)), (2, .int (nI op))], [], M)) (S2 := (748, [(0, .ref m0), (1, .int (nI pc)), (2, .int (nI op))], [], M)) rfl rfl rfl (fun c_745 => ?_) (fun c_745 => ?_)
        · exact absurd (of_decide_eq_true c_745) (show ¬ ((nI op) = 187) from fun h9 => absurd ((eq_nI (p := op) (n := 187) (by omega) (by decide)).mp h9) (by omega))
        refine ps_st (S' := (749, [(0, .ref m0), (1, .int (nI pc)), (2, .int (nI op))], [.int (nI op)], M)) rfl rfl rfl ?_
        refine ps_st (S' := (752, [(0, .ref m0), (1, .int (nI pc)), (2, .int (nI op))], [.int 189, .int (nI op)], M)) rfl rfl rfl ?_
        refine ps_if2 (S1 := (776, [(0, .ref m0), (1, .int (nI pc)), (2, .int (nI op))], [], M)) (S2 := (755, [(0, .ref m0), (1, .int (nI pc)), (2, .int (nI op))], [], M)) rfl rfl rfl (fun c_752 => ?_) (fun c_752 => ?_)
        · exact absurd (of_decide_eq_true c_752) (show ¬ ((nI op) = 189) from fun h9 => absurd ((eq_nI (p := op) (n := 189) (by omega) (by decide)).mp h9) (by omega))
        refine ps_st (S' := (756, [(0, .ref m0), (1, .int (nI pc)), (2, .int (nI op))], [.int (nI op)], M)) rfl rfl rfl ?_
        refine ps_st (S' := (759, [(0, .ref m0), (1, .int (nI pc)), (2, .int (nI op))], [.int 192, .int (nI op)], M)) rfl rfl rfl ?_
        refine ps_if2 (S1 := (776, [(0, .ref m0), (1, .int (nI pc)), (2, .int (nI op))], [], M)) (S2 := (762, [(0, .ref m0), (1, .int (nI pc)), (2, .int (nI op))], [], M)) rfl rfl rfl (fun c_759 => ?_) (fun c_759 => ?_)
        · exact absurd (of_decide_eq_true c_759) (show ¬ ((nI op) = 192) from fun h9 => absurd ((eq_nI (p := op) (n := 192) (by omega) (by decide)).mp h9) (by omega))
        refine ps_st (S' := (763, [(0, .ref m0), (1, .int (nI pc)), (2, .int (nI op))], [.int (nI op)], M)) rfl rfl rfl ?_
        refine ps_st (S' := (766, [(0, .ref m0), (1, .int (nI pc)), (2, .int (nI op))], [.int 193, .int (nI op)], M)) rfl rfl rfl ?_
        refine ps_if2 (S1 := (776, [(0, .ref m0), (1, .int (nI pc)), (2, .int (nI op))], [], M)) (S2 := (769, [(0, .ref m0), (1, .int (nI pc)), (2, .int (nI op))], [], M)) rfl rfl rfl (fun c_766 => ?_) (fun c_766 => ?_)
        · exact absurd (of_decide_eq_true c_766) (show ¬ ((nI op) = 193) from fun h9 => absurd ((eq_nI (p := op) (n := 193) (by omega) (by decide)).mp h9) (by omega))
        refine ps_st (S' := (770, [(0, .ref m0), (1, .int (nI pc)), (2, .int (nI op))], [.int (nI op)], M)) rfl rfl rfl ?_
        refine ps_st (S' := (773, [(0, .ref m0), (1, .int (nI pc)), (2, .int (nI op))], [.int 197, .int (nI op)], M)) rfl rfl rfl ?_
        refine ps_if2 (S1 := (911, [(0, .ref m0), (1, .int (nI pc)), (2, .int (nI op))], [], M)) (S2 := (776, [(0, .ref m0), (1, .int (nI pc)), (2, .int (nI op))], [], M)) rfl rfl rfl (fun c_773 => ?_) (fun c_773 => ?_)
        rotate_left
        · exact absurd (show ¬ ((nI op) = 197) from fun h9 => absurd ((eq_nI (p := op) (n := 197) (by omega) (by decide)).mp h9) (by omega)) (of_decide_eq_false c_773)
        refine ps_st (S' := (912, [(0, .ref m0), (1, .int (nI pc)), (2, .int (nI op))], [.int 1], M)) rfl rfl rfl ?_
        exact ps_ret rfl rfl (⟨congrArg (fun x => some (Value.int (nI x))) (show 1 = 1 from rfl), rfl⟩)
set_option maxHeartbeats 1000000 in
theorem rd_waysT {g : xe_G} {m0 : Nat} {q : Nat → Nat} {z : Nat × Nat} {I : rI} {R : rR} {M : mi_H} {n : Nat} {f : Nat → Int32} {cb : Nat} {L pc : Nat} {nu : Nat} (hR : RS g m0 q z I R M) (hi77 : I 77 = some (nI cb)) (hF : FK n f I R) (hcl : cb + L + 4 ≤ n) (hpl : pc < L) (hsw : pdN pc + 8 ≤ L) (ho : by1 f (cb + pc) = 170) (hnu : nuI (by4 f (cb + pdN pc + 4)) (by4 f (cb + pdN pc + 8)) = (nu : Int)) (hnb : nu < 65536) (hsw2 : pdN pc + 12 ≤ L) : pt (mT g) 254 [.ref m0, .int (nI pc)] M (fun v M' => (v = some (.int (nI (nu + 1))) ∧ M = M')) := by
  refine pt_in (b := mb_254 g) rfl (fun kf => ?_)
  show pl (mT g) kf (mb_254 g).2 (0, [(0, .ref m0), (1, .int (nI pc))], [], M) _
  have hn := hF.1
  refine ps_st (S' := (1, [(0, .ref m0), (1, .int (nI pc))], [.int (nI pc)], M)) rfl rfl rfl ?_
  refine pl_call (a := [.int (nI pc)]) (rest := []) rfl rfl rfl (rd_pad (p := pc) hR (by omega)) (fun v1 M2 q3 => ?_)
  obtain ⟨rfl, rfl⟩ := q3
  show pl _ _ _ (4, [(0, .ref m0), (1, .int (nI pc))], [.int (nI (pdN pc))], M) _
  have hpd_1 := pd_le pc
  refine ps_st (S' := (5, [(2, .int (nI (pdN pc))), (0, .ref m0), (1, .int (nI pc))], [], M)) rfl rfl rfl ?_
  refine ps_st (S' := (6, [(2, .int (nI (pdN pc))), (0, .ref m0), (1, .int (nI pc))], [.int 1], M)) rfl rfl rfl ?_
  refine ps_st (S' := (7, [(2, .int (nI (pdN pc))), (0, .ref m0), (1, .int (nI pc))], [.ref m0, .int 1], M)) rfl rfl rfl ?_
  refine ps_st (S' := (8, [(2, .int (nI (pdN pc))), (0, .ref m0), (1, .int (nI pc))], [.int (nI pc), .ref m0, .int 1], M)) rfl rfl rfl ?_
  refine pl_call (a := [.ref m0, .int (nI pc)]) (rest := [.int 1]) rfl rfl rfl (rd_b1 (n := n) (f := f) (cb := cb) (p := pc) hR hi77 hF (by omega)) (fun v4 M5 q6 => ?_)
  obtain ⟨rfl, rfl⟩ := q6
  show pl _ _ _ (11, [(2, .int (nI (pdN pc))), (0, .ref m0), (1, .int (nI pc))], [.int (nI (by1 f (cb + pc))), .int 1], M) _
  rw [ho]
  show pl _ _ _ (_, [(2, .int (nI (pdN pc))), (0, .ref m0), (1, .int (nI pc))], [.int (nI 170), .int 1], M) _
  refine ps_st (S' := (14, [(2, .int (nI (pdN pc))), (0, .ref m0), (1, .int (nI pc))], [.int 170, .int (nI 170), .int 1], M)) rfl rfl rfl ?_
  refine ps_if2 (S1 := (38, [(2, .int (nI (pdN pc))), (0, .ref m0), (1, .int (nI pc))], [.int 1], M)) (S2 := (17, [(2, .int (nI (pdN pc))), (0, .ref m0), (1, .int (nI pc))], [.int 1], M)) rfl rfl rfl (fun c_14 => ?_) (fun c_14 => ?_)
  · exact absurd (of_decide_eq_true c_14) (by decide)
  refine ps_st (S' := (18, [(2, .int (nI (pdN pc))), (0, .ref m0), (1, .int (nI pc))], [.ref m0, .int 1], M)) rfl rfl rfl ?_
  refine ps_st (S' := (19, [(2, .int (nI (pdN pc))), (0, .ref m0), (1, .int (nI pc))], [.int (nI (pdN pc)), .ref m0, .int 1], M)) rfl rfl rfl ?_
  refine ps_st (S' := (21, [(2, .int (nI (pdN pc))), (0, .ref m0), (1, .int (nI pc))], [.int 8, .int (nI (pdN pc)), .ref m0, .int 1], M)) rfl rfl rfl ?_
  refine ps_st (S' := (22, [(2, .int (nI (pdN pc))), (0, .ref m0), (1, .int (nI pc))], [.int ((nI (pdN pc)) + 8), .ref m0, .int 1], M)) rfl rfl rfl ?_
  rw [nI_add1 (p := pdN pc) (k := 8) (x := 8) rfl (by omega)]
  show pl _ _ _ (_, [(2, .int (nI (pdN pc))), (0, .ref m0), (1, .int (nI pc))], [.int (nI (pdN pc + 8)), .ref m0, .int 1], M) _
  refine pl_call (a := [.ref m0, .int (nI (pdN pc + 8))]) (rest := [.int 1]) rfl rfl rfl (rd_b4 (n := n) (f := f) (cb := cb) (p := (pdN pc + 8)) hR hi77 hF (by omega)) (fun v7 M8 q9 => ?_)
  obtain ⟨rfl, rfl⟩ := q9
  show pl _ _ _ (25, [(2, .int (nI (pdN pc))), (0, .ref m0), (1, .int (nI pc))], [.int (nI (by4 f (cb + (pdN pc + 8)))), .int 1], M) _
  show pl _ _ _ (_, [(2, .int (nI (pdN pc))), (0, .ref m0), (1, .int (nI pc))], [.int (nI (by4 f (cb + pdN pc + 8))), .int 1], M) _
  have hb_22 := by4_lt f (cb + pdN pc + 8)
  refine ps_st (S' := (26, [(2, .int (nI (pdN pc))), (0, .ref m0), (1, .int (nI pc))], [.ref m0, .int (nI (by4 f (cb + pdN pc + 8))), .int 1], M)) rfl rfl rfl ?_
  refine ps_st (S' := (27, [(2, .int (nI (pdN pc))), (0, .ref m0), (1, .int (nI pc))], [.int (nI (pdN pc)), .ref m0, .int (nI (by4 f (cb + pdN pc + 8))), .int 1], M)) rfl rfl rfl ?_
  refine ps_st (S' := (28, [(2, .int (nI (pdN pc))), (0, .ref m0), (1, .int (nI pc))], [.int 4, .int (nI (pdN pc)), .ref m0, .int (nI (by4 f (cb + pdN pc + 8))), .int 1], M)) rfl rfl rfl ?_
  refine ps_st (S' := (29, [(2, .int (nI (pdN pc))), (0, .ref m0), (1, .int (nI pc))], [.int ((nI (pdN pc)) + 4), .ref m0, .int (nI (by4 f (cb + pdN pc + 8))), .int 1], M)) rfl rfl rfl ?_
  rw [nI_add1 (p := pdN pc) (k := 4) (x := 4) rfl (by omega)]
  show pl _ _ _ (_, [(2, .int (nI (pdN pc))), (0, .ref m0), (1, .int (nI pc))], [.int (nI (pdN pc + 4)), .ref m0, .int (nI (by4 f (cb + pdN pc + 8))), .int 1], M) _
  refine pl_call (a := [.ref m0, .int (nI (pdN pc + 4))]) (rest := [.int (nI (by4 f (cb + pdN pc + 8))), .int 1]) rfl rfl rfl (rd_b4 (n := n) (f := f) (cb := cb) (p := (pdN pc + 4)) hR hi77 hF (by omega)) (fun v10 M11 q12 => ?_)
  obtain ⟨rfl, rfl⟩ := q12
  show pl _ _ _ (32, [(2, .int (nI (pdN pc))), (0, .ref m0), (1, .int (nI pc))], [.int (nI (by4 f (cb + (pdN pc + 4)))), .int (nI (by4 f (cb + pdN pc + 8))), .int 1], M) _
  show pl _ _ _ (_, [(2, .int (nI (pdN pc))), (0, .ref m0), (1, .int (nI pc))], [.int (nI (by4 f (cb + pdN pc + 4))), .int (nI (by4 f (cb + pdN pc + 8))), .int 1], M) _
  have hb_29 := by4_lt f (cb + pdN pc + 4)
  refine ps_st (S' := (33, [(2, .int (nI (pdN pc))), (0, .ref m0), (1, .int (nI pc))], [.int ((nI (by4 f (cb + pdN pc + 8))) - (nI (by4 f (cb + pdN pc + 4)))), .int 1], M)) rfl rfl rfl ?_
  refine ps_st (S' := (34, [(2, .int (nI (pdN pc))), (0, .ref m0), (1, .int (nI pc))], [.int 1, .int ((nI (by4 f (cb + pdN pc + 8))) - (nI (by4 f (cb + pdN pc + 4)))), .int 1], M)) rfl rfl rfl ?_
  refine ps_st (S' := (35, [(2, .int (nI (pdN pc))), (0, .ref m0), (1, .int (nI pc))], [.int (((nI (by4 f (cb + pdN pc + 8))) - (nI (by4 f (cb + pdN pc + 4)))) + 1), .int 1], M)) rfl rfl rfl ?_
  refine ps_st (S' := (45, [], [.int (((nI (by4 f (cb + pdN pc + 8))) - (nI (by4 f (cb + pdN pc + 4)))) + 1), .int 1], M)) rfl rfl rfl ?_
  refine ps_st (S' := (46, [], [.int (1 + (((nI (by4 f (cb + pdN pc + 8))) - (nI (by4 f (cb + pdN pc + 4)))) + 1))], M)) rfl rfl rfl ?_
  exact ps_reti rfl (⟨by rw [wy_t hnu (by omega)], rfl⟩)
set_option maxHeartbeats 1000000 in
theorem rd_waysK {g : xe_G} {m0 : Nat} {q : Nat → Nat} {z : Nat × Nat} {I : rI} {R : rR} {M : mi_H} {n : Nat} {f : Nat → Int32} {cb : Nat} {L pc : Nat} (hR : RS g m0 q z I R M) (hi77 : I 77 = some (nI cb)) (hF : FK n f I R) (hcl : cb + L + 4 ≤ n) (hpl : pc < L) (hsw : pdN pc + 8 ≤ L) (ho : by1 f (cb + pc) = 171) (hnp : by4 f (cb + pdN pc + 4) < 65536) : pt (mT g) 254 [.ref m0, .int (nI pc)] M (fun v M' => (v = some (.int (nI (by4 f (cb + pdN pc + 4) + 1))) ∧ M = M')) := by
  refine pt_in (b := mb_254 g) rfl (fun kf => ?_)
  show pl (mT g) kf (mb_254 g).2 (0, [(0, .ref m0), (1, .int (nI pc))], [], M) _
  have hn := hF.1
  refine ps_st (S' := (1, [(0, .ref m0), (1, .int (nI pc))], [.int (nI pc)], M)) rfl rfl rfl ?_
  refine pl_call (a := [.int (nI pc)]) (rest := []) rfl rfl rfl (rd_pad (p := pc) hR (by omega)) (fun v1 M2 q3 => ?_)
  obtain ⟨rfl, rfl⟩ := q3
  show pl _ _ _ (4, [(0, .ref m0), (1, .int (nI pc))], [.int (nI (pdN pc))], M) _
  have hpd_1 := pd_le pc
  refine ps_st (S' := (5, [(2, .int (nI (pdN pc))), (0, .ref m0), (1, .int (nI pc))], [], M)) rfl rfl rfl ?_
  refine ps_st (S' := (6, [(2, .int (nI (pdN pc))), (0, .ref m0), (1, .int (nI pc))], [.int 1], M)) rfl rfl rfl ?_
  refine ps_st (S' := (7, [(2, .int (nI (pdN pc))), (0, .ref m0), (1, .int (nI pc))], [.ref m0, .int 1], M)) rfl rfl rfl ?_
  refine ps_st (S' := (8, [(2, .int (nI (pdN pc))), (0, .ref m0), (1, .int (nI pc))], [.int (nI pc), .ref m0, .int 1], M)) rfl rfl rfl ?_
  refine pl_call (a := [.ref m0, .int (nI pc)]) (rest := [.int 1]) rfl rfl rfl (rd_b1 (n := n) (f := f) (cb := cb) (p := pc) hR hi77 hF (by omega)) (fun v4 M5 q6 => ?_)
  obtain ⟨rfl, rfl⟩ := q6
  show pl _ _ _ (11, [(2, .int (nI (pdN pc))), (0, .ref m0), (1, .int (nI pc))], [.int (nI (by1 f (cb + pc))), .int 1], M) _
  rw [ho]
  show pl _ _ _ (_, [(2, .int (nI (pdN pc))), (0, .ref m0), (1, .int (nI pc))], [.int (nI 171), .int 1], M) _
  refine ps_st (S' := (14, [(2, .int (nI (pdN pc))), (0, .ref m0), (1, .int (nI pc))], [.int 170, .int (nI 171), .int 1], M)) rfl rfl rfl ?_
  refine ps_if2 (S1 := (38, [(2, .int (nI (pdN pc))), (0, .ref m0), (1, .int (nI pc))], [.int 1], M)) (S2 := (17, [(2, .int (nI (pdN pc))), (0, .ref m0), (1, .int (nI pc))], [.int 1], M)) rfl rfl rfl (fun c_14 => ?_) (fun c_14 => ?_)
  rotate_left
  · exact absurd (by decide) (of_decide_eq_false c_14)
  refine ps_st (S' := (39, [(2, .int (nI (pdN pc))), (0, .ref m0), (1, .int (nI pc))], [.ref m0, .int 1], M)) rfl rfl rfl ?_
  refine ps_st (S' := (40, [(2, .int (nI (pdN pc))), (0, .ref m0), (1, .int (nI pc))], [.int (nI (pdN pc)), .ref m0, .int 1], M)) rfl rfl rfl ?_
  refine ps_st (S' := (41, [(2, .int (nI (pdN pc))), (0, .ref m0), (1, .int (nI pc))], [.int 4, .int (nI (pdN pc)), .ref m0, .int 1], M)) rfl rfl rfl ?_
  refine ps_st (S' := (42, [(2, .int (nI (pdN pc))), (0, .ref m0), (1, .int (nI pc))], [.int ((nI (pdN pc)) + 4), .ref m0, .int 1], M)) rfl rfl rfl ?_
  rw [nI_add1 (p := pdN pc) (k := 4) (x := 4) rfl (by omega)]
  show pl _ _ _ (_, [(2, .int (nI (pdN pc))), (0, .ref m0), (1, .int (nI pc))], [.int (nI (pdN pc + 4)), .ref m0, .int 1], M) _
  refine pl_call (a := [.ref m0, .int (nI (pdN pc + 4))]) (rest := [.int 1]) rfl rfl rfl (rd_b4 (n := n) (f := f) (cb := cb) (p := (pdN pc + 4)) hR hi77 hF (by omega)) (fun v7 M8 q9 => ?_)
  obtain ⟨rfl, rfl⟩ := q9
  show pl _ _ _ (45, [], [.int (nI (by4 f (cb + (pdN pc + 4)))), .int 1], M) _
  show pl _ _ _ (_, [], [.int (nI (by4 f (cb + pdN pc + 4))), .int 1], M) _
  have hb_42 := by4_lt f (cb + pdN pc + 4)
  refine ps_st (S' := (46, [], [.int (1 + (nI (by4 f (cb + pdN pc + 4))))], M)) rfl rfl rfl ?_
  rw [nI_add2 (p := 1) (k := by4 f (cb + pdN pc + 4)) (x := 1) (y := (nI (by4 f (cb + pdN pc + 4)))) rfl rfl (by omega)]
  show pl _ _ _ (_, [], [.int (nI (1 + by4 f (cb + pdN pc + 4)))], M) _
  exact ps_reti rfl (⟨congrArg (fun x => some (Value.int (nI x))) (by omega), rfl⟩)
set_option maxHeartbeats 1000000 in
theorem rd_wayAt {g : xe_G} {m0 : Nat} {q : Nat → Nat} {z : Nat × Nat} {I : rI} {R : rR} {M : mi_H} {n : Nat} {f : Nat → Int32} {cb : Nat} {L pc : Nat} {o i : Nat} (hR : RS g m0 q z I R M) (hi77 : I 77 = some (nI cb)) (hF : FK n f I R) (hcl : cb + L + 4 ≤ n) (hpl : pc < L) (ho : by1 f (cb + pc) = o) (ho2 : o = 170 ∨ o = 171) (hi9 : i < 65536) : pt (mT g) 253 [.ref m0, .int (nI pc), .int (nI i)] M (fun v M' => (v = some (.int (nI (waN o (pdN pc) i))) ∧ M = M')) := by
  refine pt_in (b := mb_253 g) rfl (fun kf => ?_)
  show pl (mT g) kf (mb_253 g).2 (0, [(0, .ref m0), (1, .int (nI pc)), (2, .int (nI i))], [], M) _
  have hn := hF.1
  refine ps_st (S' := (1, [(0, .ref m0), (1, .int (nI pc)), (2, .int (nI i))], [.int (nI pc)], M)) rfl rfl rfl ?_
  refine pl_call (a := [.int (nI pc)]) (rest := []) rfl rfl rfl (rd_pad (p := pc) hR (by omega)) (fun v1 M2 q3 => ?_)
  obtain ⟨rfl, rfl⟩ := q3
  show pl _ _ _ (4, [(0, .ref m0), (1, .int (nI pc)), (2, .int (nI i))], [.int (nI (pdN pc))], M) _
  have hpd_1 := pd_le pc
  refine ps_st (S' := (5, [(3, .int (nI (pdN pc))), (0, .ref m0), (1, .int (nI pc)), (2, .int (nI i))], [], M)) rfl rfl rfl ?_
  refine ps_st (S' := (6, [(3, .int (nI (pdN pc))), (0, .ref m0), (1, .int (nI pc)), (2, .int (nI i))], [.int (nI i)], M)) rfl rfl rfl ?_
  refine ps_if (S1 := (13, [(3, .int (nI (pdN pc))), (0, .ref m0), (1, .int (nI pc)), (2, .int (nI i))], [], M)) (S2 := (9, [(3, .int (nI (pdN pc))), (0, .ref m0), (1, .int (nI pc)), (2, .int (nI i))], [], M)) rfl rfl rfl (fun c_6 => ?_) (fun c_6 => ?_)
  · have c_6 : ¬ (nI i) = 0 := of_decide_eq_true c_6
    have n_6 : ¬ (i = 0) := fun h9 => c_6 ((eq_nI (p := i) (n := 0) (by omega) (by decide)).mpr h9)
    refine ps_st (S' := (14, [(3, .int (nI (pdN pc))), (0, .ref m0), (1, .int (nI pc)), (2, .int (nI i))], [.ref m0], M)) rfl rfl rfl ?_
    refine ps_st (S' := (15, [(3, .int (nI (pdN pc))), (0, .ref m0), (1, .int (nI pc)), (2, .int (nI i))], [.int (nI pc), .ref m0], M)) rfl rfl rfl ?_
    refine pl_call (a := [.ref m0, .int (nI pc)]) (rest := []) rfl rfl rfl (rd_b1 (n := n) (f := f) (cb := cb) (p := pc) hR hi77 hF (by omega)) (fun v4 M5 q6 => ?_)
    obtain ⟨rfl, rfl⟩ := q6
    show pl _ _ _ (18, [(3, .int (nI (pdN pc))), (0, .ref m0), (1, .int (nI pc)), (2, .int (nI i))], [.int (nI (by1 f (cb + pc)))], M) _
    rw [ho]
    show pl _ _ _ (_, [(3, .int (nI (pdN pc))), (0, .ref m0), (1, .int (nI pc)), (2, .int (nI i))], [.int (nI o)], M) _
    refine ps_st (S' := (21, [(3, .int (nI (pdN pc))), (0, .ref m0), (1, .int (nI pc)), (2, .int (nI i))], [.int 170, .int (nI o)], M)) rfl rfl rfl ?_
    refine ps_if2 (S1 := (35, [(3, .int (nI (pdN pc))), (0, .ref m0), (1, .int (nI pc)), (2, .int (nI i))], [], M)) (S2 := (24, [(3, .int (nI (pdN pc))), (0, .ref m0), (1, .int (nI pc)), (2, .int (nI i))], [], M)) rfl rfl rfl (fun c_21 => ?_) (fun c_21 => ?_)
    · have c_21 : ¬ (nI o) = 170 := of_decide_eq_true c_21
      have n_21 : ¬ (o = 170) := fun h9 => c_21 ((eq_nI (p := o) (n := 170) (by omega) (by decide)).mpr h9)
      refine ps_st (S' := (36, [(3, .int (nI (pdN pc))), (0, .ref m0), (1, .int (nI pc)), (2, .int (nI i))], [.int (nI (pdN pc))], M)) rfl rfl rfl ?_
      refine ps_st (S' := (37, [(3, .int (nI (pdN pc))), (0, .ref m0), (1, .int (nI pc)), (2, .int (nI i))], [.int 4, .int (nI (pdN pc))], M)) rfl rfl rfl ?_
      refine ps_st (S' := (38, [(3, .int (nI (pdN pc))), (0, .ref m0), (1, .int (nI pc)), (2, .int (nI i))], [.int ((nI (pdN pc)) + 4)], M)) rfl rfl rfl ?_
      rw [nI_add1 (p := pdN pc) (k := 4) (x := 4) rfl (by omega)]
      show pl _ _ _ (_, [(3, .int (nI (pdN pc))), (0, .ref m0), (1, .int (nI pc)), (2, .int (nI i))], [.int (nI (pdN pc + 4))], M) _
      refine ps_st (S' := (40, [(3, .int (nI (pdN pc))), (0, .ref m0), (1, .int (nI pc)), (2, .int (nI i))], [.int 8, .int (nI (pdN pc + 4))], M)) rfl rfl rfl ?_
      refine ps_st (S' := (41, [(3, .int (nI (pdN pc))), (0, .ref m0), (1, .int (nI pc)), (2, .int (nI i))], [.int (nI i), .int 8, .int (nI (pdN pc + 4))], M)) rfl rfl rfl ?_
      refine ps_st (S' := (42, [(3, .int (nI (pdN pc))), (0, .ref m0), (1, .int (nI pc)), (2, .int (nI i))], [.int (8 * (nI i)), .int (nI (pdN pc + 4))], M)) rfl rfl rfl ?_
      rw [nI_mul1 (p := 8) (k := i) (x := 8) (y := (nI i)) rfl rfl (by omega)]
      show pl _ _ _ (_, [(3, .int (nI (pdN pc))), (0, .ref m0), (1, .int (nI pc)), (2, .int (nI i))], [.int (nI (8 * i)), .int (nI (pdN pc + 4))], M) _
      refine ps_st (S' := (43, [], [.int ((nI (pdN pc + 4)) + (nI (8 * i)))], M)) rfl rfl rfl ?_
      rw [nI_add1 (p := pdN pc + 4) (k := 8 * i) (x := (nI (8 * i))) rfl (by omega)]
      show pl _ _ _ (_, [], [.int (nI (pdN pc + 4 + 8 * i))], M) _
      exact ps_reti rfl (⟨congrArg (fun x => some (Value.int (nI x))) (show pdN pc + 4 + 8 * i = waN o (pdN pc) i from by
          unfold waN
          first | ((repeat first | rw [if_pos (by omega)] | rw [if_neg (by omega)]) <;> first | rfl | omega) | ((repeat' split) <;> first | rfl | (exfalso; omega) | omega)), rfl⟩)
    · have c_21 : ¬ (¬ (nI o) = 170) := of_decide_eq_false c_21
      have n_21 : o = 170 := (eq_nI (p := o) (n := 170) (by omega) (by decide)).mp (Decidable.not_not.mp c_21)
      refine ps_st (S' := (25, [(3, .int (nI (pdN pc))), (0, .ref m0), (1, .int (nI pc)), (2, .int (nI i))], [.int (nI (pdN pc))], M)) rfl rfl rfl ?_
      refine ps_st (S' := (27, [(3, .int (nI (pdN pc))), (0, .ref m0), (1, .int (nI pc)), (2, .int (nI i))], [.int 8, .int (nI (pdN pc))], M)) rfl rfl rfl ?_
      refine ps_st (S' := (28, [(3, .int (nI (pdN pc))), (0, .ref m0), (1, .int (nI pc)), (2, .int (nI i))], [.int ((nI (pdN pc)) + 8)], M)) rfl rfl rfl ?_
      rw [nI_add1 (p := pdN pc) (k := 8) (x := 8) rfl (by omega)]
      show pl _ _ _ (_, [(3, .int (nI (pdN pc))), (0, .ref m0), (1, .int (nI pc)), (2, .int (nI i))], [.int (nI (pdN pc + 8))], M) _
      refine ps_st (S' := (29, [(3, .int (nI (pdN pc))), (0, .ref m0), (1, .int (nI pc)), (2, .int (nI i))], [.int 4, .int (nI (pdN pc + 8))], M)) rfl rfl rfl ?_
      refine ps_st (S' := (30, [(3, .int (nI (pdN pc))), (0, .ref m0), (1, .int (nI pc)), (2, .int (nI i))], [.int (nI i), .int 4, .int (nI (pdN pc + 8))], M)) rfl rfl rfl ?_
      refine ps_st (S' := (31, [(3, .int (nI (pdN pc))), (0, .ref m0), (1, .int (nI pc)), (2, .int (nI i))], [.int (4 * (nI i)), .int (nI (pdN pc + 8))], M)) rfl rfl rfl ?_
      rw [nI_mul1 (p := 4) (k := i) (x := 4) (y := (nI i)) rfl rfl (by omega)]
      show pl _ _ _ (_, [(3, .int (nI (pdN pc))), (0, .ref m0), (1, .int (nI pc)), (2, .int (nI i))], [.int (nI (4 * i)), .int (nI (pdN pc + 8))], M) _
      refine ps_st (S' := (32, [(3, .int (nI (pdN pc))), (0, .ref m0), (1, .int (nI pc)), (2, .int (nI i))], [.int ((nI (pdN pc + 8)) + (nI (4 * i)))], M)) rfl rfl rfl ?_
      rw [nI_add1 (p := pdN pc + 8) (k := 4 * i) (x := (nI (4 * i))) rfl (by omega)]
      show pl _ _ _ (_, [(3, .int (nI (pdN pc))), (0, .ref m0), (1, .int (nI pc)), (2, .int (nI i))], [.int (nI (pdN pc + 8 + 4 * i))], M) _
      refine ps_st (S' := (43, [], [.int (nI (pdN pc + 8 + 4 * i))], M)) rfl rfl rfl ?_
      exact ps_reti rfl (⟨congrArg (fun x => some (Value.int (nI x))) (show pdN pc + 8 + 4 * i = waN o (pdN pc) i from by
          unfold waN
          first | ((repeat first | rw [if_pos (by omega)] | rw [if_neg (by omega)]) <;> first | rfl | omega) | ((repeat' split) <;> first | rfl | (exfalso; omega) | omega)), rfl⟩)
  · have c_6 : ¬ (¬ (nI i) = 0) := of_decide_eq_false c_6
    have n_6 : i = 0 := (eq_nI (p := i) (n := 0) (by omega) (by decide)).mp (Decidable.not_not.mp c_6)
    refine ps_st (S' := (10, [(3, .int (nI (pdN pc))), (0, .ref m0), (1, .int (nI pc)), (2, .int (nI i))], [.int (nI (pdN pc))], M)) rfl rfl rfl ?_
    refine ps_st (S' := (43, [], [.int (nI (pdN pc))], M)) rfl rfl rfl ?_
    exact ps_reti rfl (⟨congrArg (fun x => some (Value.int (nI x))) (show pdN pc = waN o (pdN pc) i from by
        unfold waN
        first | ((repeat first | rw [if_pos (by omega)] | rw [if_neg (by omega)]) <;> first | rfl | omega) | ((repeat' split) <;> first | rfl | (exfalso; omega) | omega)), rfl⟩)
set_option maxHeartbeats 1000000 in
theorem rd_aimsJ {g : xe_G} {m0 : Nat} {q : Nat → Nat} {z : Nat × Nat} {I : rI} {R : rR} {M : mi_H} {n : Nat} {f : Nat → Int32} {cb : Nat} {L pc : Nat} {S : List Nat} {o : Nat} (hR : RS g m0 q z I R M) (hi77 : I 77 = some (nI cb)) (hi78 : I 78 = some (nI L)) (hF : FK n f I R) (hW : WH S L I R) (hcl : cb + L + 4 ≤ n) (hpl : pc < L) (hL : L < 65536) (hSl : S.length < 65536) (hSL : ∀ p ∈ S, p < L) (ho : by1 f (cb + pc) = o) (ho2 : (153 ≤ o ∧ o ≤ 168) ∨ o = 198 ∨ o = 199) : pt (mT g) 174 [.ref m0, .int (nI pc)] M (fun v M' => (v = some (.int (nI (stN S (Int32.toInt64 ((nI pc) + (s16 (by2 f (cb + pc + 1)))))))) ∧ M = M')) := by
  refine pt_in (b := mb_174 g) rfl (fun kf => ?_)
  show pl (mT g) kf (mb_174 g).2 (0, [(0, .ref m0), (1, .int (nI pc))], [], M) _
  have hn := hF.1
  refine ps_st (S' := (1, [(0, .ref m0), (1, .int (nI pc))], [.ref m0], M)) rfl rfl rfl ?_
  refine ps_st (S' := (2, [(0, .ref m0), (1, .int (nI pc))], [.int (nI pc), .ref m0], M)) rfl rfl rfl ?_
  refine pl_call (a := [.ref m0, .int (nI pc)]) (rest := []) rfl rfl rfl (rd_b1 (n := n) (f := f) (cb := cb) (p := pc) hR hi77 hF (by omega)) (fun v1 M2 q3 => ?_)
  obtain ⟨rfl, rfl⟩ := q3
  show pl _ _ _ (5, [(0, .ref m0), (1, .int (nI pc))], [.int (nI (by1 f (cb + pc)))], M) _
  rw [ho]
  show pl _ _ _ (_, [(0, .ref m0), (1, .int (nI pc))], [.int (nI o)], M) _
  refine ps_st (S' := (6, [(2, .int (nI o)), (0, .ref m0), (1, .int (nI pc))], [], M)) rfl rfl rfl ?_
  refine ps_st (S' := (7, [(2, .int (nI o)), (0, .ref m0), (1, .int (nI pc))], [.int (nI o)], M)) rfl rfl rfl ?_
  refine ps_st (S' := (10, [(2, .int (nI o)), (0, .ref m0), (1, .int (nI pc))], [.int 153, .int (nI o)], M)) rfl rfl rfl ?_
  refine ps_if2 (S1 := (20, [(0, .ref m0), (1, .int (nI pc)), (2, .int (nI o))], [], M)) (S2 := (13, [(2, .int (nI o)), (0, .ref m0), (1, .int (nI pc))], [], M)) rfl rfl rfl (fun c_10 => ?_) (fun c_10 => ?_)
  · exact absurd (of_decide_eq_true c_10) (show ¬ ((nI o) < 153) from fun h9 => absurd ((lt_nI (p := o) (n := 153) (by omega) (by decide)).mp h9) (by omega))
  refine ps_st (S' := (14, [(2, .int (nI o)), (0, .ref m0), (1, .int (nI pc))], [.int (nI o)], M)) rfl rfl rfl ?_
  refine ps_st (S' := (17, [(2, .int (nI o)), (0, .ref m0), (1, .int (nI pc))], [.int 168, .int (nI o)], M)) rfl rfl rfl ?_
  refine ps_if2 (S1 := (34, [(0, .ref m0), (1, .int (nI pc))], [], M)) (S2 := (20, [(0, .ref m0), (1, .int (nI pc)), (2, .int (nI o))], [], M)) rfl rfl rfl (fun c_17 => ?_) (fun c_17 => ?_)
  · have c_17 : (nI o) ≤ 168 := of_decide_eq_true c_17
    have n_17 : o ≤ 168 := (le_nI (p := o) (n := 168) (by omega) (by decide)).mp c_17
    refine ps_st (S' := (35, [(0, .ref m0), (1, .int (nI pc))], [.ref m0], M)) rfl rfl rfl ?_
    refine ps_st (S' := (36, [(0, .ref m0), (1, .int (nI pc))], [.int (nI pc), .ref m0], M)) rfl rfl rfl ?_
    refine ps_st (S' := (37, [(0, .ref m0), (1, .int (nI pc))], [.ref m0, .int (nI pc), .ref m0], M)) rfl rfl rfl ?_
    refine ps_st (S' := (38, [(0, .ref m0), (1, .int (nI pc))], [.int (nI pc), .ref m0, .int (nI pc), .ref m0], M)) rfl rfl rfl ?_
    refine ps_st (S' := (39, [(0, .ref m0), (1, .int (nI pc))], [.int 1, .int (nI pc), .ref m0, .int (nI pc), .ref m0], M)) rfl rfl rfl ?_
    refine ps_st (S' := (40, [(0, .ref m0), (1, .int (nI pc))], [.int ((nI pc) + 1), .ref m0, .int (nI pc), .ref m0], M)) rfl rfl rfl ?_
    rw [nI_add1 (p := pc) (k := 1) (x := 1) rfl (by omega)]
    show pl _ _ _ (_, [(0, .ref m0), (1, .int (nI pc))], [.int (nI (pc + 1)), .ref m0, .int (nI pc), .ref m0], M) _
    refine pl_call (a := [.ref m0, .int (nI (pc + 1))]) (rest := [.int (nI pc), .ref m0]) rfl rfl rfl (rd_s2 (n := n) (f := f) (cb := cb) (p := (pc + 1)) hR hi77 hF (by omega)) (fun v4 M5 q6 => ?_)
    obtain ⟨rfl, rfl⟩ := q6
    show pl _ _ _ (43, [(0, .ref m0), (1, .int (nI pc))], [.int (s16 (by2 f (cb + (pc + 1)))), .int (nI pc), .ref m0], M) _
    show pl _ _ _ (_, [(0, .ref m0), (1, .int (nI pc))], [.int (s16 (by2 f (cb + pc + 1))), .int (nI pc), .ref m0], M) _
    refine ps_st (S' := (44, [(0, .ref m0), (1, .int (nI pc))], [.int ((nI pc) + (s16 (by2 f (cb + pc + 1)))), .ref m0], M)) rfl rfl rfl ?_
    refine ps_st (S' := (45, [(0, .ref m0), (1, .int (nI pc))], [.long (Int32.toInt64 ((nI pc) + (s16 (by2 f (cb + pc + 1))))), .ref m0], M)) rfl rfl rfl ?_
    refine pl_call (a := [.ref m0, .long (Int32.toInt64 ((nI pc) + (s16 (by2 f (cb + pc + 1)))))]) (rest := []) rfl rfl rfl (rd_starts (L := L) (S := S) (t := (Int32.toInt64 ((nI pc) + (s16 (by2 f (cb + pc + 1)))))) hR hi78 hW (hL) (hSl) (hSL)) (fun v7 M8 q9 => ?_)
    obtain ⟨rfl, rfl⟩ := q9
    show pl _ _ _ (48, [(0, .ref m0), (1, .int (nI pc))], [.int (nI (stN S (Int32.toInt64 ((nI pc) + (s16 (by2 f (cb + pc + 1)))))))], M) _
    exact ps_reti rfl (⟨rfl, rfl⟩)
  · have c_17 : ¬ ((nI o) ≤ 168) := of_decide_eq_false c_17
    have n_17 : ¬ (o ≤ 168) := fun h9 => c_17 ((le_nI (p := o) (n := 168) (by omega) (by decide)).mpr h9)
    refine ps_st (S' := (21, [(0, .ref m0), (1, .int (nI pc)), (2, .int (nI o))], [.int (nI o)], M)) rfl rfl rfl ?_
    refine ps_st (S' := (24, [(0, .ref m0), (1, .int (nI pc)), (2, .int (nI o))], [.int 198, .int (nI o)], M)) rfl rfl rfl ?_
    refine ps_if2 (S1 := (34, [(0, .ref m0), (1, .int (nI pc))], [], M)) (S2 := (27, [(0, .ref m0), (1, .int (nI pc)), (2, .int (nI o))], [], M)) rfl rfl rfl (fun c_24 => ?_) (fun c_24 => ?_)
    · have c_24 : (nI o) = 198 := of_decide_eq_true c_24
      have n_24 : o = 198 := (eq_nI (p := o) (n := 198) (by omega) (by decide)).mp c_24
      refine ps_st (S' := (35, [(0, .ref m0), (1, .int (nI pc))], [.ref m0], M)) rfl rfl rfl ?_
      refine ps_st (S' := (36, [(0, .ref m0), (1, .int (nI pc))], [.int (nI pc), .ref m0], M)) rfl rfl rfl ?_
      refine ps_st (S' := (37, [(0, .ref m0), (1, .int (nI pc))], [.ref m0, .int (nI pc), .ref m0], M)) rfl rfl rfl ?_
      refine ps_st (S' := (38, [(0, .ref m0), (1, .int (nI pc))], [.int (nI pc), .ref m0, .int (nI pc), .ref m0], M)) rfl rfl rfl ?_
      refine ps_st (S' := (39, [(0, .ref m0), (1, .int (nI pc))], [.int 1, .int (nI pc), .ref m0, .int (nI pc), .ref m0], M)) rfl rfl rfl ?_
      refine ps_st (S' := (40, [(0, .ref m0), (1, .int (nI pc))], [.int ((nI pc) + 1), .ref m0, .int (nI pc), .ref m0], M)) rfl rfl rfl ?_
      rw [nI_add1 (p := pc) (k := 1) (x := 1) rfl (by omega)]
      show pl _ _ _ (_, [(0, .ref m0), (1, .int (nI pc))], [.int (nI (pc + 1)), .ref m0, .int (nI pc), .ref m0], M) _
      refine pl_call (a := [.ref m0, .int (nI (pc + 1))]) (rest := [.int (nI pc), .ref m0]) rfl rfl rfl (rd_s2 (n := n) (f := f) (cb := cb) (p := (pc + 1)) hR hi77 hF (by omega)) (fun v10 M11 q12 => ?_)
      obtain ⟨rfl, rfl⟩ := q12
      show pl _ _ _ (43, [(0, .ref m0), (1, .int (nI pc))], [.int (s16 (by2 f (cb + (pc + 1)))), .int (nI pc), .ref m0], M) _
      show pl _ _ _ (_, [(0, .ref m0), (1, .int (nI pc))], [.int (s16 (by2 f (cb + pc + 1))), .int (nI pc), .ref m0], M) _
      refine ps_st (S' := (44, [(0, .ref m0), (1, .int (nI pc))], [.int ((nI pc) + (s16 (by2 f (cb + pc + 1)))), .ref m0], M)) rfl rfl rfl ?_
      refine ps_st (S' := (45, [(0, .ref m0), (1, .int (nI pc))], [.long (Int32.toInt64 ((nI pc) + (s16 (by2 f (cb + pc + 1))))), .ref m0], M)) rfl rfl rfl ?_
      refine pl_call (a := [.ref m0, .long (Int32.toInt64 ((nI pc) + (s16 (by2 f (cb + pc + 1)))))]) (rest := []) rfl rfl rfl (rd_starts (L := L) (S := S) (t := (Int32.toInt64 ((nI pc) + (s16 (by2 f (cb + pc + 1)))))) hR hi78 hW (hL) (hSl) (hSL)) (fun v13 M14 q15 => ?_)
      obtain ⟨rfl, rfl⟩ := q15
      show pl _ _ _ (48, [(0, .ref m0), (1, .int (nI pc))], [.int (nI (stN S (Int32.toInt64 ((nI pc) + (s16 (by2 f (cb + pc + 1)))))))], M) _
      exact ps_reti rfl (⟨rfl, rfl⟩)
    · have c_24 : ¬ ((nI o) = 198) := of_decide_eq_false c_24
      have n_24 : ¬ (o = 198) := fun h9 => c_24 ((eq_nI (p := o) (n := 198) (by omega) (by decide)).mpr h9)
      refine ps_st (S' := (28, [(0, .ref m0), (1, .int (nI pc)), (2, .int (nI o))], [.int (nI o)], M)) rfl rfl rfl ?_
      refine ps_st (S' := (31, [(0, .ref m0), (1, .int (nI pc)), (2, .int (nI o))], [.int 199, .int (nI o)], M)) rfl rfl rfl ?_
      refine ps_if2 (S1 := (49, [(0, .ref m0), (1, .int (nI pc)), (2, .int (nI o))], [], M)) (S2 := (34, [(0, .ref m0), (1, .int (nI pc))], [], M)) rfl rfl rfl (fun c_31 => ?_) (fun c_31 => ?_)
      · exact absurd (of_decide_eq_true c_31) (fun h9 => h9 ((eq_nI (p := o) (n := 199) (by omega) (by decide)).mpr (by omega)))
      refine ps_st (S' := (35, [(0, .ref m0), (1, .int (nI pc))], [.ref m0], M)) rfl rfl rfl ?_
      refine ps_st (S' := (36, [(0, .ref m0), (1, .int (nI pc))], [.int (nI pc), .ref m0], M)) rfl rfl rfl ?_
      refine ps_st (S' := (37, [(0, .ref m0), (1, .int (nI pc))], [.ref m0, .int (nI pc), .ref m0], M)) rfl rfl rfl ?_
      refine ps_st (S' := (38, [(0, .ref m0), (1, .int (nI pc))], [.int (nI pc), .ref m0, .int (nI pc), .ref m0], M)) rfl rfl rfl ?_
      refine ps_st (S' := (39, [(0, .ref m0), (1, .int (nI pc))], [.int 1, .int (nI pc), .ref m0, .int (nI pc), .ref m0], M)) rfl rfl rfl ?_
      refine ps_st (S' := (40, [(0, .ref m0), (1, .int (nI pc))], [.int ((nI pc) + 1), .ref m0, .int (nI pc), .ref m0], M)) rfl rfl rfl ?_
      rw [nI_add1 (p := pc) (k := 1) (x := 1) rfl (by omega)]
      show pl _ _ _ (_, [(0, .ref m0), (1, .int (nI pc))], [.int (nI (pc + 1)), .ref m0, .int (nI pc), .ref m0], M) _
      refine pl_call (a := [.ref m0, .int (nI (pc + 1))]) (rest := [.int (nI pc), .ref m0]) rfl rfl rfl (rd_s2 (n := n) (f := f) (cb := cb) (p := (pc + 1)) hR hi77 hF (by omega)) (fun v16 M17 q18 => ?_)
      obtain ⟨rfl, rfl⟩ := q18
      show pl _ _ _ (43, [(0, .ref m0), (1, .int (nI pc))], [.int (s16 (by2 f (cb + (pc + 1)))), .int (nI pc), .ref m0], M) _
      show pl _ _ _ (_, [(0, .ref m0), (1, .int (nI pc))], [.int (s16 (by2 f (cb + pc + 1))), .int (nI pc), .ref m0], M) _
      refine ps_st (S' := (44, [(0, .ref m0), (1, .int (nI pc))], [.int ((nI pc) + (s16 (by2 f (cb + pc + 1)))), .ref m0], M)) rfl rfl rfl ?_
      refine ps_st (S' := (45, [(0, .ref m0), (1, .int (nI pc))], [.long (Int32.toInt64 ((nI pc) + (s16 (by2 f (cb + pc + 1))))), .ref m0], M)) rfl rfl rfl ?_
      refine pl_call (a := [.ref m0, .long (Int32.toInt64 ((nI pc) + (s16 (by2 f (cb + pc + 1)))))]) (rest := []) rfl rfl rfl (rd_starts (L := L) (S := S) (t := (Int32.toInt64 ((nI pc) + (s16 (by2 f (cb + pc + 1)))))) hR hi78 hW (hL) (hSl) (hSL)) (fun v19 M20 q21 => ?_)
      obtain ⟨rfl, rfl⟩ := q21
      show pl _ _ _ (48, [(0, .ref m0), (1, .int (nI pc))], [.int (nI (stN S (Int32.toInt64 ((nI pc) + (s16 (by2 f (cb + pc + 1)))))))], M) _
      exact ps_reti rfl (⟨rfl, rfl⟩)
set_option maxHeartbeats 1000000 in
theorem rd_aimsG {g : xe_G} {m0 : Nat} {q : Nat → Nat} {z : Nat × Nat} {I : rI} {R : rR} {M : mi_H} {n : Nat} {f : Nat → Int32} {cb : Nat} {L pc : Nat} {S : List Nat} {o : Nat} (hR : RS g m0 q z I R M) (hi77 : I 77 = some (nI cb)) (hi78 : I 78 = some (nI L)) (hF : FK n f I R) (hW : WH S L I R) (hcl : cb + L + 4 ≤ n) (hpl : pc < L) (hL : L < 65536) (hSl : S.length < 65536) (hSL : ∀ p ∈ S, p < L) (ho : by1 f (cb + pc) = o) (ho2 : o = 200 ∨ o = 201) : pt (mT g) 174 [.ref m0, .int (nI pc)] M (fun v M' => (v = some (.int (nI (stN S ((nL pc) + (Int32.toInt64 (nI (by4 f (cb + pc + 1)))))))) ∧ M = M')) := by
  refine pt_in (b := mb_174 g) rfl (fun kf => ?_)
  show pl (mT g) kf (mb_174 g).2 (0, [(0, .ref m0), (1, .int (nI pc))], [], M) _
  have hn := hF.1
  refine ps_st (S' := (1, [(0, .ref m0), (1, .int (nI pc))], [.ref m0], M)) rfl rfl rfl ?_
  refine ps_st (S' := (2, [(0, .ref m0), (1, .int (nI pc))], [.int (nI pc), .ref m0], M)) rfl rfl rfl ?_
  refine pl_call (a := [.ref m0, .int (nI pc)]) (rest := []) rfl rfl rfl (rd_b1 (n := n) (f := f) (cb := cb) (p := pc) hR hi77 hF (by omega)) (fun v1 M2 q3 => ?_)
  obtain ⟨rfl, rfl⟩ := q3
  show pl _ _ _ (5, [(0, .ref m0), (1, .int (nI pc))], [.int (nI (by1 f (cb + pc)))], M) _
  rw [ho]
  show pl _ _ _ (_, [(0, .ref m0), (1, .int (nI pc))], [.int (nI o)], M) _
  refine ps_st (S' := (6, [(2, .int (nI o)), (0, .ref m0), (1, .int (nI pc))], [], M)) rfl rfl rfl ?_
  refine ps_st (S' := (7, [(2, .int (nI o)), (0, .ref m0), (1, .int (nI pc))], [.int (nI o)], M)) rfl rfl rfl ?_
  refine ps_st (S' := (10, [(2, .int (nI o)), (0, .ref m0), (1, .int (nI pc))], [.int 153, .int (nI o)], M)) rfl rfl rfl ?_
  refine ps_if2 (S1 := (20, [(0, .ref m0), (1, .int (nI pc)), (2, .int (nI o))], [], M)) (S2 := (13, [(2, .int (nI o)), (0, .ref m0), (1, .int (nI pc))], [], M)) rfl rfl rfl (fun c_10 => ?_) (fun c_10 => ?_)
  · exact absurd (of_decide_eq_true c_10) (show ¬ ((nI o) < 153) from fun h9 => absurd ((lt_nI (p := o) (n := 153) (by omega) (by decide)).mp h9) (by omega))
  refine ps_st (S' := (14, [(2, .int (nI o)), (0, .ref m0), (1, .int (nI pc))], [.int (nI o)], M)) rfl rfl rfl ?_
  refine ps_st (S' := (17, [(2, .int (nI o)), (0, .ref m0), (1, .int (nI pc))], [.int 168, .int (nI o)], M)) rfl rfl rfl ?_
  refine ps_if2 (S1 := (34, [(0, .ref m0), (1, .int (nI pc))], [], M)) (S2 := (20, [(0, .ref m0), (1, .int (nI pc)), (2, .int (nI o))], [], M)) rfl rfl rfl (fun c_17 => ?_) (fun c_17 => ?_)
  · exact absurd (of_decide_eq_true c_17) (show ¬ ((nI o) ≤ 168) from fun h9 => absurd ((le_nI (p := o) (n := 168) (by omega) (by decide)).mp h9) (by omega))
  refine ps_st (S' := (21, [(0, .ref m0), (1, .int (nI pc)), (2, .int (nI o))], [.int (nI o)], M)) rfl rfl rfl ?_
  refine ps_st (S' := (24, [(0, .ref m0), (1, .int (nI pc)), (2, .int (nI o))], [.int 198, .int (nI o)], M)) rfl rfl rfl ?_
  refine ps_if2 (S1 := (34, [(0, .ref m0), (1, .int (nI pc))], [], M)) (S2 := (27, [(0, .ref m0), (1, .int (nI pc)), (2, .int (nI o))], [], M)) rfl rfl rfl (fun c_24 => ?_) (fun c_24 => ?_)
  · exact absurd (of_decide_eq_true c_24) (show ¬ ((nI o) = 198) from fun h9 => absurd ((eq_nI (p := o) (n := 198) (by omega) (by decide)).mp h9) (by omega))
  refine ps_st (S' := (28, [(0, .ref m0), (1, .int (nI pc)), (2, .int (nI o))], [.int (nI o)], M)) rfl rfl rfl ?_
  refine ps_st (S' := (31, [(0, .ref m0), (1, .int (nI pc)), (2, .int (nI o))], [.int 199, .int (nI o)], M)) rfl rfl rfl ?_
  refine ps_if2 (S1 := (49, [(0, .ref m0), (1, .int (nI pc)), (2, .int (nI o))], [], M)) (S2 := (34, [(0, .ref m0), (1, .int (nI pc))], [], M)) rfl rfl rfl (fun c_31 => ?_) (fun c_31 => ?_)
  rotate_left
  · exact absurd (show ¬ ((nI o) = 199) from fun h9 => absurd ((eq_nI (p := o) (n := 199) (by omega) (by decide)).mp h9) (by omega)) (of_decide_eq_false c_31)
  refine ps_st (S' := (50, [(0, .ref m0), (1, .int (nI pc)), (2, .int (nI o))], [.int (nI o)], M)) rfl rfl rfl ?_
  refine ps_st (S' := (53, [(0, .ref m0), (1, .int (nI pc)), (2, .int (nI o))], [.int 200, .int (nI o)], M)) rfl rfl rfl ?_
  refine ps_if2 (S1 := (63, [(0, .ref m0), (1, .int (nI pc))], [], M)) (S2 := (56, [(0, .ref m0), (1, .int (nI pc)), (2, .int (nI o))], [], M)) rfl rfl rfl (fun c_53 => ?_) (fun c_53 => ?_)
  · have c_53 : (nI o) = 200 := of_decide_eq_true c_53
    have n_53 : o = 200 := (eq_nI (p := o) (n := 200) (by omega) (by decide)).mp c_53
    refine ps_st (S' := (64, [(0, .ref m0), (1, .int (nI pc))], [.ref m0], M)) rfl rfl rfl ?_
    refine ps_st (S' := (65, [(0, .ref m0), (1, .int (nI pc))], [.int (nI pc), .ref m0], M)) rfl rfl rfl ?_
    refine ps_st (S' := (66, [(0, .ref m0), (1, .int (nI pc))], [.long (Int32.toInt64 (nI pc)), .ref m0], M)) rfl rfl rfl ?_
    rw [i2l_nL (p := pc) (by omega)]
    show pl _ _ _ (_, [(0, .ref m0), (1, .int (nI pc))], [.long (nL pc), .ref m0], M) _
    refine ps_st (S' := (67, [(0, .ref m0), (1, .int (nI pc))], [.ref m0, .long (nL pc), .ref m0], M)) rfl rfl rfl ?_
    refine ps_st (S' := (68, [(0, .ref m0), (1, .int (nI pc))], [.int (nI pc), .ref m0, .long (nL pc), .ref m0], M)) rfl rfl rfl ?_
    refine ps_st (S' := (69, [(0, .ref m0), (1, .int (nI pc))], [.int 1, .int (nI pc), .ref m0, .long (nL pc), .ref m0], M)) rfl rfl rfl ?_
    refine ps_st (S' := (70, [(0, .ref m0), (1, .int (nI pc))], [.int ((nI pc) + 1), .ref m0, .long (nL pc), .ref m0], M)) rfl rfl rfl ?_
    rw [nI_add1 (p := pc) (k := 1) (x := 1) rfl (by omega)]
    show pl _ _ _ (_, [(0, .ref m0), (1, .int (nI pc))], [.int (nI (pc + 1)), .ref m0, .long (nL pc), .ref m0], M) _
    refine pl_call (a := [.ref m0, .int (nI (pc + 1))]) (rest := [.long (nL pc), .ref m0]) rfl rfl rfl (rd_b4 (n := n) (f := f) (cb := cb) (p := (pc + 1)) hR hi77 hF (by omega)) (fun v4 M5 q6 => ?_)
    obtain ⟨rfl, rfl⟩ := q6
    show pl _ _ _ (73, [(0, .ref m0), (1, .int (nI pc))], [.int (nI (by4 f (cb + (pc + 1)))), .long (nL pc), .ref m0], M) _
    show pl _ _ _ (_, [(0, .ref m0), (1, .int (nI pc))], [.int (nI (by4 f (cb + pc + 1))), .long (nL pc), .ref m0], M) _
    have hb_70 := by4_lt f (cb + pc + 1)
    refine ps_st (S' := (74, [(0, .ref m0), (1, .int (nI pc))], [.long (Int32.toInt64 (nI (by4 f (cb + pc + 1)))), .long (nL pc), .ref m0], M)) rfl rfl rfl ?_
    refine ps_st (S' := (75, [(0, .ref m0), (1, .int (nI pc))], [.long ((nL pc) + (Int32.toInt64 (nI (by4 f (cb + pc + 1))))), .ref m0], M)) rfl rfl rfl ?_
    refine pl_call (a := [.ref m0, .long ((nL pc) + (Int32.toInt64 (nI (by4 f (cb + pc + 1)))))]) (rest := []) rfl rfl rfl (rd_starts (L := L) (S := S) (t := ((nL pc) + (Int32.toInt64 (nI (by4 f (cb + pc + 1)))))) hR hi78 hW (hL) (hSl) (hSL)) (fun v7 M8 q9 => ?_)
    obtain ⟨rfl, rfl⟩ := q9
    show pl _ _ _ (78, [(0, .ref m0), (1, .int (nI pc))], [.int (nI (stN S ((nL pc) + (Int32.toInt64 (nI (by4 f (cb + pc + 1)))))))], M) _
    exact ps_reti rfl (⟨rfl, rfl⟩)
  · have c_53 : ¬ ((nI o) = 200) := of_decide_eq_false c_53
    have n_53 : ¬ (o = 200) := fun h9 => c_53 ((eq_nI (p := o) (n := 200) (by omega) (by decide)).mpr h9)
    refine ps_st (S' := (57, [(0, .ref m0), (1, .int (nI pc)), (2, .int (nI o))], [.int (nI o)], M)) rfl rfl rfl ?_
    refine ps_st (S' := (60, [(0, .ref m0), (1, .int (nI pc)), (2, .int (nI o))], [.int 201, .int (nI o)], M)) rfl rfl rfl ?_
    refine ps_if2 (S1 := (79, [(0, .ref m0), (1, .int (nI pc)), (2, .int (nI o))], [], M)) (S2 := (63, [(0, .ref m0), (1, .int (nI pc))], [], M)) rfl rfl rfl (fun c_60 => ?_) (fun c_60 => ?_)
    · exact absurd (of_decide_eq_true c_60) (fun h9 => h9 ((eq_nI (p := o) (n := 201) (by omega) (by decide)).mpr (by omega)))
    refine ps_st (S' := (64, [(0, .ref m0), (1, .int (nI pc))], [.ref m0], M)) rfl rfl rfl ?_
    refine ps_st (S' := (65, [(0, .ref m0), (1, .int (nI pc))], [.int (nI pc), .ref m0], M)) rfl rfl rfl ?_
    refine ps_st (S' := (66, [(0, .ref m0), (1, .int (nI pc))], [.long (Int32.toInt64 (nI pc)), .ref m0], M)) rfl rfl rfl ?_
    rw [i2l_nL (p := pc) (by omega)]
    show pl _ _ _ (_, [(0, .ref m0), (1, .int (nI pc))], [.long (nL pc), .ref m0], M) _
    refine ps_st (S' := (67, [(0, .ref m0), (1, .int (nI pc))], [.ref m0, .long (nL pc), .ref m0], M)) rfl rfl rfl ?_
    refine ps_st (S' := (68, [(0, .ref m0), (1, .int (nI pc))], [.int (nI pc), .ref m0, .long (nL pc), .ref m0], M)) rfl rfl rfl ?_
    refine ps_st (S' := (69, [(0, .ref m0), (1, .int (nI pc))], [.int 1, .int (nI pc), .ref m0, .long (nL pc), .ref m0], M)) rfl rfl rfl ?_
    refine ps_st (S' := (70, [(0, .ref m0), (1, .int (nI pc))], [.int ((nI pc) + 1), .ref m0, .long (nL pc), .ref m0], M)) rfl rfl rfl ?_
    rw [nI_add1 (p := pc) (k := 1) (x := 1) rfl (by omega)]
    show pl _ _ _ (_, [(0, .ref m0), (1, .int (nI pc))], [.int (nI (pc + 1)), .ref m0, .long (nL pc), .ref m0], M) _
    refine pl_call (a := [.ref m0, .int (nI (pc + 1))]) (rest := [.long (nL pc), .ref m0]) rfl rfl rfl (rd_b4 (n := n) (f := f) (cb := cb) (p := (pc + 1)) hR hi77 hF (by omega)) (fun v10 M11 q12 => ?_)
    obtain ⟨rfl, rfl⟩ := q12
    show pl _ _ _ (73, [(0, .ref m0), (1, .int (nI pc))], [.int (nI (by4 f (cb + (pc + 1)))), .long (nL pc), .ref m0], M) _
    show pl _ _ _ (_, [(0, .ref m0), (1, .int (nI pc))], [.int (nI (by4 f (cb + pc + 1))), .long (nL pc), .ref m0], M) _
    have hb_70 := by4_lt f (cb + pc + 1)
    refine ps_st (S' := (74, [(0, .ref m0), (1, .int (nI pc))], [.long (Int32.toInt64 (nI (by4 f (cb + pc + 1)))), .long (nL pc), .ref m0], M)) rfl rfl rfl ?_
    refine ps_st (S' := (75, [(0, .ref m0), (1, .int (nI pc))], [.long ((nL pc) + (Int32.toInt64 (nI (by4 f (cb + pc + 1))))), .ref m0], M)) rfl rfl rfl ?_
    refine pl_call (a := [.ref m0, .long ((nL pc) + (Int32.toInt64 (nI (by4 f (cb + pc + 1)))))]) (rest := []) rfl rfl rfl (rd_starts (L := L) (S := S) (t := ((nL pc) + (Int32.toInt64 (nI (by4 f (cb + pc + 1)))))) hR hi78 hW (hL) (hSl) (hSL)) (fun v13 M14 q15 => ?_)
    obtain ⟨rfl, rfl⟩ := q15
    show pl _ _ _ (78, [(0, .ref m0), (1, .int (nI pc))], [.int (nI (stN S ((nL pc) + (Int32.toInt64 (nI (by4 f (cb + pc + 1)))))))], M) _
    exact ps_reti rfl (⟨rfl, rfl⟩)
set_option maxHeartbeats 1000000 in
theorem rd_aims0 {g : xe_G} {m0 : Nat} {q : Nat → Nat} {z : Nat × Nat} {I : rI} {R : rR} {M : mi_H} {n : Nat} {f : Nat → Int32} {cb : Nat} {L pc : Nat} {S : List Nat} {o : Nat} (hR : RS g m0 q z I R M) (hi77 : I 77 = some (nI cb)) (hi78 : I 78 = some (nI L)) (hF : FK n f I R) (hW : WH S L I R) (hcl : cb + L + 4 ≤ n) (hpl : pc < L) (hL : L < 65536) (hSl : S.length < 65536) (hSL : ∀ p ∈ S, p < L) (ho : by1 f (cb + pc) = o) (ho2 : o < 256 ∧ ¬ ((153 ≤ o ∧ o ≤ 168) ∨ o = 198 ∨ o = 199 ∨ o = 200 ∨ o = 201 ∨ o = 170 ∨ o = 171)) : pt (mT g) 174 [.ref m0, .int (nI pc)] M (fun v M' => (v = some (.int (nI (1))) ∧ M = M')) := by
  refine pt_in (b := mb_174 g) rfl (fun kf => ?_)
  show pl (mT g) kf (mb_174 g).2 (0, [(0, .ref m0), (1, .int (nI pc))], [], M) _
  have hn := hF.1
  refine ps_st (S' := (1, [(0, .ref m0), (1, .int (nI pc))], [.ref m0], M)) rfl rfl rfl ?_
  refine ps_st (S' := (2, [(0, .ref m0), (1, .int (nI pc))], [.int (nI pc), .ref m0], M)) rfl rfl rfl ?_
  refine pl_call (a := [.ref m0, .int (nI pc)]) (rest := []) rfl rfl rfl (rd_b1 (n := n) (f := f) (cb := cb) (p := pc) hR hi77 hF (by omega)) (fun v1 M2 q3 => ?_)
  obtain ⟨rfl, rfl⟩ := q3
  show pl _ _ _ (5, [(0, .ref m0), (1, .int (nI pc))], [.int (nI (by1 f (cb + pc)))], M) _
  rw [ho]
  show pl _ _ _ (_, [(0, .ref m0), (1, .int (nI pc))], [.int (nI o)], M) _
  refine ps_st (S' := (6, [(2, .int (nI o)), (0, .ref m0), (1, .int (nI pc))], [], M)) rfl rfl rfl ?_
  refine ps_st (S' := (7, [(2, .int (nI o)), (0, .ref m0), (1, .int (nI pc))], [.int (nI o)], M)) rfl rfl rfl ?_
  refine ps_st (S' := (10, [(2, .int (nI o)), (0, .ref m0), (1, .int (nI pc))], [.int 153, .int (nI o)], M)) rfl rfl rfl ?_
  refine ps_if2 (S1 := (20, [(0, .ref m0), (1, .int (nI pc)), (2, .int (nI o))], [], M)) (S2 := (13, [(2, .int (nI o)), (0, .ref m0), (1, .int (nI pc))], [], M)) rfl rfl rfl (fun c_10 => ?_) (fun c_10 => ?_)
  · have c_10 : (nI o) < 153 := of_decide_eq_true c_10
    have n_10 : o < 153 := (lt_nI (p := o) (n := 153) (by omega) (by decide)).mp c_10
    refine ps_st (S' := (21, [(0, .ref m0), (1, .int (nI pc)), (2, .int (nI o))], [.int (nI o)], M)) rfl rfl rfl ?_
    refine ps_st (S' := (24, [(0, .ref m0), (1, .int (nI pc)), (2, .int (nI o))], [.int 198, .int (nI o)], M)) rfl rfl rfl ?_
    refine ps_if2 (S1 := (34, [(0, .ref m0), (1, .int (nI pc))], [], M)) (S2 := (27, [(0, .ref m0), (1, .int (nI pc)), (2, .int (nI o))], [], M)) rfl rfl rfl (fun c_24 => ?_) (fun c_24 => ?_)
    · exact absurd (of_decide_eq_true c_24) (show ¬ ((nI o) = 198) from fun h9 => absurd ((eq_nI (p := o) (n := 198) (by omega) (by decide)).mp h9) (by omega))
    refine ps_st (S' := (28, [(0, .ref m0), (1, .int (nI pc)), (2, .int (nI o))], [.int (nI o)], M)) rfl rfl rfl ?_
    refine ps_st (S' := (31, [(0, .ref m0), (1, .int (nI pc)), (2, .int (nI o))], [.int 199, .int (nI o)], M)) rfl rfl rfl ?_
    refine ps_if2 (S1 := (49, [(0, .ref m0), (1, .int (nI pc)), (2, .int (nI o))], [], M)) (S2 := (34, [(0, .ref m0), (1, .int (nI pc))], [], M)) rfl rfl rfl (fun c_31 => ?_) (fun c_31 => ?_)
    rotate_left
    · exact absurd (show ¬ ((nI o) = 199) from fun h9 => absurd ((eq_nI (p := o) (n := 199) (by omega) (by decide)).mp h9) (by omega)) (of_decide_eq_false c_31)
    refine ps_st (S' := (50, [(0, .ref m0), (1, .int (nI pc)), (2, .int (nI o))], [.int (nI o)], M)) rfl rfl rfl ?_
    refine ps_st (S' := (53, [(0, .ref m0), (1, .int (nI pc)), (2, .int (nI o))], [.int 200, .int (nI o)], M)) rfl rfl rfl ?_
    refine ps_if2 (S1 := (63, [(0, .ref m0), (1, .int (nI pc))], [], M)) (S2 := (56, [(0, .ref m0), (1, .int (nI pc)), (2, .int (nI o))], [], M)) rfl rfl rfl (fun c_53 => ?_) (fun c_53 => ?_)
    · exact absurd (of_decide_eq_true c_53) (show ¬ ((nI o) = 200) from fun h9 => absurd ((eq_nI (p := o) (n := 200) (by omega) (by decide)).mp h9) (by omega))
    refine ps_st (S' := (57, [(0, .ref m0), (1, .int (nI pc)), (2, .int (nI o))], [.int (nI o)], M)) rfl rfl rfl ?_
    refine ps_st (S' := (60, [(0, .ref m0), (1, .int (nI pc)), (2, .int (nI o))], [.int 201, .int (nI o)], M)) rfl rfl rfl ?_
    refine ps_if2 (S1 := (79, [(0, .ref m0), (1, .int (nI pc)), (2, .int (nI o))], [], M)) (S2 := (63, [(0, .ref m0), (1, .int (nI pc))], [], M)) rfl rfl rfl (fun c_60 => ?_) (fun c_60 => ?_)
    rotate_left
    · exact absurd (show ¬ ((nI o) = 201) from fun h9 => absurd ((eq_nI (p := o) (n := 201) (by omega) (by decide)).mp h9) (by omega)) (of_decide_eq_false c_60)
    refine ps_st (S' := (80, [(0, .ref m0), (1, .int (nI pc)), (2, .int (nI o))], [.int (nI o)], M)) rfl rfl rfl ?_
    refine ps_st (S' := (83, [(0, .ref m0), (1, .int (nI pc)), (2, .int (nI o))], [.int 170, .int (nI o)], M)) rfl rfl rfl ?_
    refine ps_if2 (S1 := (93, [(0, .ref m0), (1, .int (nI pc))], [], M)) (S2 := (86, [(0, .ref m0), (1, .int (nI pc)), (2, .int (nI o))], [], M)) rfl rfl rfl (fun c_83 => ?_) (fun c_83 => ?_)
    · exact absurd (of_decide_eq_true c_83) (show ¬ ((nI o) = 170) from fun h9 => absurd ((eq_nI (p := o) (n := 170) (by omega) (by decide)).mp h9) (by omega))
    refine ps_st (S' := (87, [(0, .ref m0), (1, .int (nI pc)), (2, .int (nI o))], [.int (nI o)], M)) rfl rfl rfl ?_
    refine ps_st (S' := (90, [(0, .ref m0), (1, .int (nI pc)), (2, .int (nI o))], [.int 171, .int (nI o)], M)) rfl rfl rfl ?_
    refine ps_if2 (S1 := (133, [], [], M)) (S2 := (93, [(0, .ref m0), (1, .int (nI pc))], [], M)) rfl rfl rfl (fun c_90 => ?_) (fun c_90 => ?_)
    rotate_left
    · exact absurd (show ¬ ((nI o) = 171) from fun h9 => absurd ((eq_nI (p := o) (n := 171) (by omega) (by decide)).mp h9) (by omega)) (of_decide_eq_false c_90)
    refine ps_st (S' := (134, [], [.int 1], M)) rfl rfl rfl ?_
    exact ps_ret rfl rfl (⟨rfl, rfl⟩)
  · have c_10 : ¬ ((nI o) < 153) := of_decide_eq_false c_10
    have n_10 : ¬ (o < 153) := fun h9 => c_10 ((lt_nI (p := o) (n := 153) (by omega) (by decide)).mpr h9)
    refine ps_st (S' := (14, [(2, .int (nI o)), (0, .ref m0), (1, .int (nI pc))], [.int (nI o)], M)) rfl rfl rfl ?_
    refine ps_st (S' := (17, [(2, .int (nI o)), (0, .ref m0), (1, .int (nI pc))], [.int 168, .int (nI o)], M)) rfl rfl rfl ?_
    refine ps_if2 (S1 := (34, [(0, .ref m0), (1, .int (nI pc))], [], M)) (S2 := (20, [(0, .ref m0), (1, .int (nI pc)), (2, .int (nI o))], [], M)) rfl rfl rfl (fun c_17 => ?_) (fun c_17 => ?_)
    · exact absurd (of_decide_eq_true c_17) (show ¬ ((nI o) ≤ 168) from fun h9 => absurd ((le_nI (p := o) (n := 168) (by omega) (by decide)).mp h9) (by omega))
    refine ps_st (S' := (21, [(0, .ref m0), (1, .int (nI pc)), (2, .int (nI o))], [.int (nI o)], M)) rfl rfl rfl ?_
    refine ps_st (S' := (24, [(0, .ref m0), (1, .int (nI pc)), (2, .int (nI o))], [.int 198, .int (nI o)], M)) rfl rfl rfl ?_
    refine ps_if2 (S1 := (34, [(0, .ref m0), (1, .int (nI pc))], [], M)) (S2 := (27, [(0, .ref m0), (1, .int (nI pc)), (2, .int (nI o))], [], M)) rfl rfl rfl (fun c_24 => ?_) (fun c_24 => ?_)
    · exact absurd (of_decide_eq_true c_24) (show ¬ ((nI o) = 198) from fun h9 => absurd ((eq_nI (p := o) (n := 198) (by omega) (by decide)).mp h9) (by omega))
    refine ps_st (S' := (28, [(0, .ref m0), (1, .int (nI pc)), (2, .int (nI o))], [.int (nI o)], M)) rfl rfl rfl ?_
    refine ps_st (S' := (31, [(0, .ref m0), (1, .int (nI pc)), (2, .int (nI o))], [.int 199, .int (nI o)], M)) rfl rfl rfl ?_
    refine ps_if2 (S1 := (49, [(0, .ref m0), (1, .int (nI pc)), (2, .int (nI o))], [], M)) (S2 := (34, [(0, .ref m0), (1, .int (nI pc))], [], M)) rfl rfl rfl (fun c_31 => ?_) (fun c_31 => ?_)
    rotate_left
    · exact absurd (show ¬ ((nI o) = 199) from fun h9 => absurd ((eq_nI (p := o) (n := 199) (by omega) (by decide)).mp h9) (by omega)) (of_decide_eq_false c_31)
    refine ps_st (S' := (50, [(0, .ref m0), (1, .int (nI pc)), (2, .int (nI o))], [.int (nI o)], M)) rfl rfl rfl ?_
    refine ps_st (S' := (53, [(0, .ref m0), (1, .int (nI pc)), (2, .int (nI o))], [.int 200, .int (nI o)], M)) rfl rfl rfl ?_
    refine ps_if2 (S1 := (63, [(0, .ref m0), (1, .int (nI pc))], [], M)) (S2 := (56, [(0, .ref m0), (1, .int (nI pc)), (2, .int (nI o))], [], M)) rfl rfl rfl (fun c_53 => ?_) (fun c_53 => ?_)
    · exact absurd (of_decide_eq_true c_53) (show ¬ ((nI o) = 200) from fun h9 => absurd ((eq_nI (p := o) (n := 200) (by omega) (by decide)).mp h9) (by omega))
    refine ps_st (S' := (57, [(0, .ref m0), (1, .int (nI pc)), (2, .int (nI o))], [.int (nI o)], M)) rfl rfl rfl ?_
    refine ps_st (S' := (60, [(0, .ref m0), (1, .int (nI pc)), (2, .int (nI o))], [.int 201, .int (nI o)], M)) rfl rfl rfl ?_
    refine ps_if2 (S1 := (79, [(0, .ref m0), (1, .int (nI pc)), (2, .int (nI o))], [], M)) (S2 := (63, [(0, .ref m0), (1, .int (nI pc))], [], M)) rfl rfl rfl (fun c_60 => ?_) (fun c_60 => ?_)
    rotate_left
    · exact absurd (show ¬ ((nI o) = 201) from fun h9 => absurd ((eq_nI (p := o) (n := 201) (by omega) (by decide)).mp h9) (by omega)) (of_decide_eq_false c_60)
    refine ps_st (S' := (80, [(0, .ref m0), (1, .int (nI pc)), (2, .int (nI o))], [.int (nI o)], M)) rfl rfl rfl ?_
    refine ps_st (S' := (83, [(0, .ref m0), (1, .int (nI pc)), (2, .int (nI o))], [.int 170, .int (nI o)], M)) rfl rfl rfl ?_
    refine ps_if2 (S1 := (93, [(0, .ref m0), (1, .int (nI pc))], [], M)) (S2 := (86, [(0, .ref m0), (1, .int (nI pc)), (2, .int (nI o))], [], M)) rfl rfl rfl (fun c_83 => ?_) (fun c_83 => ?_)
    · exact absurd (of_decide_eq_true c_83) (show ¬ ((nI o) = 170) from fun h9 => absurd ((eq_nI (p := o) (n := 170) (by omega) (by decide)).mp h9) (by omega))
    refine ps_st (S' := (87, [(0, .ref m0), (1, .int (nI pc)), (2, .int (nI o))], [.int (nI o)], M)) rfl rfl rfl ?_
    refine ps_st (S' := (90, [(0, .ref m0), (1, .int (nI pc)), (2, .int (nI o))], [.int 171, .int (nI o)], M)) rfl rfl rfl ?_
    refine ps_if2 (S1 := (133, [], [], M)) (S2 := (93, [(0, .ref m0), (1, .int (nI pc))], [], M)) rfl rfl rfl (fun c_90 => ?_) (fun c_90 => ?_)
    rotate_left
    · exact absurd (show ¬ ((nI o) = 171) from fun h9 => absurd ((eq_nI (p := o) (n := 171) (by omega) (by decide)).mp h9) (by omega)) (of_decide_eq_false c_90)
    refine ps_st (S' := (134, [], [.int 1], M)) rfl rfl rfl ?_
    exact ps_ret rfl rfl (⟨rfl, rfl⟩)
set_option maxHeartbeats 1000000 in
theorem rd_aimsT {g : xe_G} {m0 : Nat} {q : Nat → Nat} {z : Nat × Nat} {I : rI} {R : rR} {M : mi_H} {n : Nat} {f : Nat → Int32} {cb : Nat} {L pc : Nat} {S : List Nat} {nu : Nat} (hR : RS g m0 q z I R M) (hi77 : I 77 = some (nI cb)) (hi78 : I 78 = some (nI L)) (hF : FK n f I R) (hW : WH S L I R) (hcl : cb + L + 4 ≤ n) (hpl : pc < L) (hL : L < 65536) (hSl : S.length < 65536) (hSL : ∀ p ∈ S, p < L) (ho : by1 f (cb + pc) = 170) (hnu : nuI (by4 f (cb + pdN pc + 4)) (by4 f (cb + pdN pc + 8)) = (nu : Int)) (hnb : nu < 65535) (hsw : pdN pc + 8 ≤ L) (hsw2 : pdN pc + 12 ≤ L) (hin9 : ∀ i, i < (nu + 1) → cb + waN 170 (pdN pc) i + 4 ≤ n) : pt (mT g) 174 [.ref m0, .int (nI pc)] M (fun v M' => (v = some (.int (nI (thG (fun i => (pc : Int) + (nI (by4 f (cb + waN 170 (pdN pc) i))).toInt) S (nu + 1) 0))) ∧ M = M')) := by
  refine pt_in (b := mb_174 g) rfl (fun kf => ?_)
  show pl (mT g) kf (mb_174 g).2 (0, [(0, .ref m0), (1, .int (nI pc))], [], M) _
  have hn := hF.1
  have LL : ∀ (kf : Nat), (∀ (i : Nat), (i ≤ (nu + 1)) → (thG (fun i => (pc : Int) + (nI (by4 f (cb + waN 170 (pdN pc) i))).toInt) S ((nu + 1) - i) i = thG (fun i => (pc : Int) + (nI (by4 f (cb + waN 170 (pdN pc) i))).toInt) S (nu + 1) 0) →  pl (mT g) kf (mb_174 g).2 (95, [(0, .ref m0), (1, .int (nI pc)), (3, .int (nI i))], [], M) (fun v M' => (v = some (.int (nI (thG (fun i => (pc : Int) + (nI (by4 f (cb + waN 170 (pdN pc) i))).toInt) S (nu + 1) 0))) ∧ M = M'))) := by
    intro kf
    induction kf with
    | zero => exact (by intros; exact pl_0)
    | succ kf ih =>
      intro i hi hth
      refine ps_st1 (S' := (96, [(0, .ref m0), (1, .int (nI pc)), (3, .int (nI i))], [.int (nI i)], M)) rfl rfl rfl ?_
      refine ps_st (S' := (97, [(0, .ref m0), (1, .int (nI pc)), (3, .int (nI i))], [.ref m0, .int (nI i)], M)) rfl rfl rfl ?_
      refine ps_st (S' := (98, [(0, .ref m0), (1, .int (nI pc)), (3, .int (nI i))], [.int (nI pc), .ref m0, .int (nI i)], M)) rfl rfl rfl ?_
      refine pl_call (a := [.ref m0, .int (nI pc)]) (rest := [.int (nI i)]) rfl rfl rfl (rd_waysT (n := n) (f := f) (cb := cb) (L := L) (pc := pc) (nu := nu) hR hi77 hF (hcl) (hpl) (hsw) (ho) (hnu) (by omega) (hsw2)) (fun v1 M2 q3 => ?_)
      obtain ⟨rfl, rfl⟩ := q3
      show pl _ _ _ (101, [(0, .ref m0), (1, .int (nI pc)), (3, .int (nI i))], [.int (nI (nu + 1)), .int (nI i)], M) _
      refine ps_if2 (S1 := (133, [], [], M)) (S2 := (104, [(0, .ref m0), (1, .int (nI pc)), (3, .int (nI i))], [], M)) rfl rfl rfl (fun c_101 => ?_) (fun c_101 => ?_)
      · have c_101 : (nI (nu + 1)) ≤ (nI i) := of_decide_eq_true c_101
        have n_101 : nu + 1 ≤ i := (le_nI (p := nu + 1) (n := i) (by omega) (by omega)).mp c_101
        refine ps_st (S' := (134, [], [.int 1], M)) rfl rfl rfl ?_
        exact ps_ret rfl rfl (⟨congrArg (fun x => some (Value.int (nI x))) (show 1 = thG (fun i => (pc : Int) + (nI (by4 f (cb + waN 170 (pdN pc) i))).toInt) S (nu + 1) 0 from by rw [← hth, show (nu + 1) - i = 0 by omega]; rfl), rfl⟩)
      · have c_101 : ¬ ((nI (nu + 1)) ≤ (nI i)) := of_decide_eq_false c_101
        have n_101 : ¬ (nu + 1 ≤ i) := fun h9 => c_101 ((le_nI (p := nu + 1) (n := i) (by omega) (by omega)).mpr h9)
        have hwi := hin9 i (by omega)
        refine ps_st (S' := (105, [(0, .ref m0), (1, .int (nI pc)), (3, .int (nI i))], [.ref m0], M)) rfl rfl rfl ?_
        refine ps_st (S' := (106, [(0, .ref m0), (1, .int (nI pc)), (3, .int (nI i))], [.int (nI pc), .ref m0], M)) rfl rfl rfl ?_
        refine ps_st (S' := (107, [(0, .ref m0), (1, .int (nI pc)), (3, .int (nI i))], [.long (Int32.toInt64 (nI pc)), .ref m0], M)) rfl rfl rfl ?_
        rw [i2l_nL (p := pc) (by omega)]
        show pl _ _ _ (_, [(0, .ref m0), (1, .int (nI pc)), (3, .int (nI i))], [.long (nL pc), .ref m0], M) _
        refine ps_st (S' := (108, [(0, .ref m0), (1, .int (nI pc)), (3, .int (nI i))], [.ref m0, .long (nL pc), .ref m0], M)) rfl rfl rfl ?_
        refine ps_st (S' := (109, [(0, .ref m0), (1, .int (nI pc)), (3, .int (nI i))], [.ref m0, .ref m0, .long (nL pc), .ref m0], M)) rfl rfl rfl ?_
        refine ps_st (S' := (110, [(0, .ref m0), (1, .int (nI pc)), (3, .int (nI i))], [.int (nI pc), .ref m0, .ref m0, .long (nL pc), .ref m0], M)) rfl rfl rfl ?_
        refine ps_st (S' := (111, [(0, .ref m0), (1, .int (nI pc)), (3, .int (nI i))], [.int (nI i), .int (nI pc), .ref m0, .ref m0, .long (nL pc), .ref m0], M)) rfl rfl rfl ?_
        refine pl_call (a := [.ref m0, .int (nI pc), .int (nI i)]) (rest := [.ref m0, .long (nL pc), .ref m0]) rfl rfl rfl (rd_wayAt (n := n) (f := f) (cb := cb) (L := L) (pc := pc) (o := 170) (i := i) hR hi77 hF (hcl) (hpl) (ho) (by omega) (by omega)) (fun v4 M5 q6 => ?_)
        obtain ⟨rfl, rfl⟩ := q6
        show pl _ _ _ (114, [(0, .ref m0), (1, .int (nI pc)), (3, .int (nI i))], [.int (nI (waN 170 (pdN pc) i)), .ref m0, .long (nL pc), .ref m0], M) _
        refine pl_call (a := [.ref m0, .int (nI (waN 170 (pdN pc) i))]) (rest := [.long (nL pc), .ref m0]) rfl rfl rfl (rd_b4 (n := n) (f := f) (cb := cb) (p := (waN 170 (pdN pc) i)) hR hi77 hF (by omega)) (fun v7 M8 q9 => ?_)
        obtain ⟨rfl, rfl⟩ := q9
        show pl _ _ _ (117, [(0, .ref m0), (1, .int (nI pc)), (3, .int (nI i))], [.int (nI (by4 f (cb + (waN 170 (pdN pc) i)))), .long (nL pc), .ref m0], M) _
        show pl _ _ _ (_, [(0, .ref m0), (1, .int (nI pc)), (3, .int (nI i))], [.int (nI (by4 f (cb + waN 170 (pdN pc) i))), .long (nL pc), .ref m0], M) _
        have hb_114 := by4_lt f (cb + waN 170 (pdN pc) i)
        refine ps_st (S' := (118, [(0, .ref m0), (1, .int (nI pc)), (3, .int (nI i))], [.long (Int32.toInt64 (nI (by4 f (cb + waN 170 (pdN pc) i)))), .long (nL pc), .ref m0], M)) rfl rfl rfl ?_
        refine ps_st (S' := (119, [(0, .ref m0), (1, .int (nI pc)), (3, .int (nI i))], [.long ((nL pc) + (Int32.toInt64 (nI (by4 f (cb + waN 170 (pdN pc) i))))), .ref m0], M)) rfl rfl rfl ?_
        refine pl_call (a := [.ref m0, .long ((nL pc) + (Int32.toInt64 (nI (by4 f (cb + waN 170 (pdN pc) i)))))]) (rest := []) rfl rfl rfl (rd_starts (L := L) (S := S) (t := ((nL pc) + (Int32.toInt64 (nI (by4 f (cb + waN 170 (pdN pc) i)))))) hR hi78 hW (hL) (hSl) (hSL)) (fun v10 M11 q12 => ?_)
        obtain ⟨rfl, rfl⟩ := q12
        show pl _ _ _ (122, [(0, .ref m0), (1, .int (nI pc)), (3, .int (nI i))], [.int (nI (stN S ((nL pc) + (Int32.toInt64 (nI (by4 f (cb + waN 170 (pdN pc) i)))))))], M) _
        refine ps_if (S1 := (127, [(0, .ref m0), (1, .int (nI pc)), (3, .int (nI i))], [], M)) (S2 := (125, [(0, .ref m0), (1, .int (nI pc)), (3, .int (nI i))], [], M)) rfl rfl rfl (fun c_122 => ?_) (fun c_122 => ?_)
        · have c_122 : ¬ (nI (stN S ((nL pc) + (Int32.toInt64 (nI (by4 f (cb + waN 170 (pdN pc) i))))))) = 0 := of_decide_eq_true c_122
          have n_122 : ¬ (stN S ((nL pc) + (Int32.toInt64 (nI (by4 f (cb + waN 170 (pdN pc) i))))) = 0) := fun h9 => c_122 ((eq_nI (p := stN S ((nL pc) + (Int32.toInt64 (nI (by4 f (cb + waN 170 (pdN pc) i)))))) (n := 0) (Nat.lt_trans (le1_st _ _) (by decide)) (by decide)).mpr h9)
          have hok : 0 ≤ (fun i => (pc : Int) + (nI (by4 f (cb + waN 170 (pdN pc) i))).toInt) i ∧ ((fun i => (pc : Int) + (nI (by4 f (cb + waN 170 (pdN pc) i))).toInt) i).toNat ∈ S := Decidable.byContradiction (fun h9 => n_122 (by unfold stN; rw [(show ((nL pc) + (Int32.toInt64 (nI (by4 f (cb + waN 170 (pdN pc) i))))).toInt = _ from an_val (by omega) (i2l_val _) (by have h9 := i32_bd (nI (by4 f (cb + waN 170 (pdN pc) i))); omega)), if_neg h9]))
          refine ps_st (S' := (130, [(3, .int ((nI i) + 1)), (0, .ref m0), (1, .int (nI pc))], [], M)) rfl rfl rfl ?_
          rw [nI_add1 (p := i) (k := 1) (x := 1) rfl (by omega)]
          show pl _ _ _ (_, [(3, .int (nI (i + 1))), (0, .ref m0), (1, .int (nI pc))], [], M) _
          refine ps_st (S' := (95, [(0, .ref m0), (1, .int (nI pc)), (3, .int (nI (i + 1)))], [], M)) rfl rfl rfl ?_
          exact ih (i + 1)  (by omega) (by
              rw [← hth, thG_st (i := i) (j := i) (by omega), if_pos hok])
        · have c_122 : ¬ (¬ (nI (stN S ((nL pc) + (Int32.toInt64 (nI (by4 f (cb + waN 170 (pdN pc) i))))))) = 0) := of_decide_eq_false c_122
          have n_122 : stN S ((nL pc) + (Int32.toInt64 (nI (by4 f (cb + waN 170 (pdN pc) i))))) = 0 := (eq_nI (p := stN S ((nL pc) + (Int32.toInt64 (nI (by4 f (cb + waN 170 (pdN pc) i)))))) (n := 0) (Nat.lt_trans (le1_st _ _) (by decide)) (by decide)).mp (Decidable.not_not.mp c_122)
          have hno : ¬ (0 ≤ (fun i => (pc : Int) + (nI (by4 f (cb + waN 170 (pdN pc) i))).toInt) i ∧ ((fun i => (pc : Int) + (nI (by4 f (cb + waN 170 (pdN pc) i))).toInt) i).toNat ∈ S) := fun h9 => absurd n_122 (by unfold stN; rw [(show ((nL pc) + (Int32.toInt64 (nI (by4 f (cb + waN 170 (pdN pc) i))))).toInt = _ from an_val (by omega) (i2l_val _) (by have h9 := i32_bd (nI (by4 f (cb + waN 170 (pdN pc) i))); omega)), if_pos h9]; decide)
          refine ps_st (S' := (126, [(0, .ref m0), (1, .int (nI pc)), (3, .int (nI i))], [.int 0], M)) rfl rfl rfl ?_
          exact ps_ret rfl rfl (⟨congrArg (fun x => some (Value.int (nI x))) (show 0 = thG (fun i => (pc : Int) + (nI (by4 f (cb + waN 170 (pdN pc) i))).toInt) S (nu + 1) 0 from by rw [← hth, thG_st (i := i) (j := i) (by omega), if_neg hno]), rfl⟩)
  refine ps_st (S' := (1, [(0, .ref m0), (1, .int (nI pc))], [.ref m0], M)) rfl rfl rfl ?_
  refine ps_st (S' := (2, [(0, .ref m0), (1, .int (nI pc))], [.int (nI pc), .ref m0], M)) rfl rfl rfl ?_
  refine pl_call (a := [.ref m0, .int (nI pc)]) (rest := []) rfl rfl rfl (rd_b1 (n := n) (f := f) (cb := cb) (p := pc) hR hi77 hF (by omega)) (fun v13 M14 q15 => ?_)
  obtain ⟨rfl, rfl⟩ := q15
  show pl _ _ _ (5, [(0, .ref m0), (1, .int (nI pc))], [.int (nI (by1 f (cb + pc)))], M) _
  rw [ho]
  show pl _ _ _ (_, [(0, .ref m0), (1, .int (nI pc))], [.int (nI 170)], M) _
  refine ps_st (S' := (6, [(2, .int (nI 170)), (0, .ref m0), (1, .int (nI pc))], [], M)) rfl rfl rfl ?_
  refine ps_st (S' := (7, [(2, .int (nI 170)), (0, .ref m0), (1, .int (nI pc))], [.int (nI 170)], M)) rfl rfl rfl ?_
  refine ps_st (S' := (10, [(2, .int (nI 170)), (0, .ref m0), (1, .int (nI pc))], [.int 153, .int (nI 170)], M)) rfl rfl rfl ?_
  refine ps_if2 (S1 := (20, [(0, .ref m0), (1, .int (nI pc)), (2, .int (nI 170))], [], M)) (S2 := (13, [(2, .int (nI 170)), (0, .ref m0), (1, .int (nI pc))], [], M)) rfl rfl rfl (fun c_10 => ?_) (fun c_10 => ?_)
  · exact absurd (of_decide_eq_true c_10) (by decide)
  refine ps_st (S' := (14, [(2, .int (nI 170)), (0, .ref m0), (1, .int (nI pc))], [.int (nI 170)], M)) rfl rfl rfl ?_
  refine ps_st (S' := (17, [(2, .int (nI 170)), (0, .ref m0), (1, .int (nI pc))], [.int 168, .int (nI 170)], M)) rfl rfl rfl ?_
  refine ps_if2 (S1 := (34, [(0, .ref m0), (1, .int (nI pc))], [], M)) (S2 := (20, [(0, .ref m0), (1, .int (nI pc)), (2, .int (nI 170))], [], M)) rfl rfl rfl (fun c_17 => ?_) (fun c_17 => ?_)
  · exact absurd (of_decide_eq_true c_17) (by decide)
  refine ps_st (S' := (21, [(0, .ref m0), (1, .int (nI pc)), (2, .int (nI 170))], [.int (nI 170)], M)) rfl rfl rfl ?_
  refine ps_st (S' := (24, [(0, .ref m0), (1, .int (nI pc)), (2, .int (nI 170))], [.int 198, .int (nI 170)], M)) rfl rfl rfl ?_
  refine ps_if2 (S1 := (34, [(0, .ref m0), (1, .int (nI pc))], [], M)) (S2 := (27, [(0, .ref m0), (1, .int (nI pc)), (2, .int (nI 170))], [], M)) rfl rfl rfl (fun c_24 => ?_) (fun c_24 => ?_)
  · exact absurd (of_decide_eq_true c_24) (by decide)
  refine ps_st (S' := (28, [(0, .ref m0), (1, .int (nI pc)), (2, .int (nI 170))], [.int (nI 170)], M)) rfl rfl rfl ?_
  refine ps_st (S' := (31, [(0, .ref m0), (1, .int (nI pc)), (2, .int (nI 170))], [.int 199, .int (nI 170)], M)) rfl rfl rfl ?_
  refine ps_if2 (S1 := (49, [(0, .ref m0), (1, .int (nI pc)), (2, .int (nI 170))], [], M)) (S2 := (34, [(0, .ref m0), (1, .int (nI pc))], [], M)) rfl rfl rfl (fun c_31 => ?_) (fun c_31 => ?_)
  rotate_left
  · exact absurd (by decide) (of_decide_eq_false c_31)
  refine ps_st (S' := (50, [(0, .ref m0), (1, .int (nI pc)), (2, .int (nI 170))], [.int (nI 170)], M)) rfl rfl rfl ?_
  refine ps_st (S' := (53, [(0, .ref m0), (1, .int (nI pc)), (2, .int (nI 170))], [.int 200, .int (nI 170)], M)) rfl rfl rfl ?_
  refine ps_if2 (S1 := (63, [(0, .ref m0), (1, .int (nI pc))], [], M)) (S2 := (56, [(0, .ref m0), (1, .int (nI pc)), (2, .int (nI 170))], [], M)) rfl rfl rfl (fun c_53 => ?_) (fun c_53 => ?_)
  · exact absurd (of_decide_eq_true c_53) (by decide)
  refine ps_st (S' := (57, [(0, .ref m0), (1, .int (nI pc)), (2, .int (nI 170))], [.int (nI 170)], M)) rfl rfl rfl ?_
  refine ps_st (S' := (60, [(0, .ref m0), (1, .int (nI pc)), (2, .int (nI 170))], [.int 201, .int (nI 170)], M)) rfl rfl rfl ?_
  refine ps_if2 (S1 := (79, [(0, .ref m0), (1, .int (nI pc)), (2, .int (nI 170))], [], M)) (S2 := (63, [(0, .ref m0), (1, .int (nI pc))], [], M)) rfl rfl rfl (fun c_60 => ?_) (fun c_60 => ?_)
  rotate_left
  · exact absurd (by decide) (of_decide_eq_false c_60)
  refine ps_st (S' := (80, [(0, .ref m0), (1, .int (nI pc)), (2, .int (nI 170))], [.int (nI 170)], M)) rfl rfl rfl ?_
  refine ps_st (S' := (83, [(0, .ref m0), (1, .int (nI pc)), (2, .int (nI 170))], [.int 170, .int (nI 170)], M)) rfl rfl rfl ?_
  refine ps_if2 (S1 := (93, [(0, .ref m0), (1, .int (nI pc))], [], M)) (S2 := (86, [(0, .ref m0), (1, .int (nI pc)), (2, .int (nI 170))], [], M)) rfl rfl rfl (fun c_83 => ?_) (fun c_83 => ?_)
  rotate_left
  · exact absurd (by decide) (of_decide_eq_false c_83)
  refine ps_st (S' := (94, [(0, .ref m0), (1, .int (nI pc))], [.int 0], M)) rfl rfl rfl ?_
  refine ps_st (S' := (95, [(0, .ref m0), (1, .int (nI pc)), (3, .int 0)], [], M)) rfl rfl rfl ?_
  exact (LL kf) (0)  (Nat.zero_le _) (rfl)
set_option maxHeartbeats 1000000 in
theorem rd_aimsK {g : xe_G} {m0 : Nat} {q : Nat → Nat} {z : Nat × Nat} {I : rI} {R : rR} {M : mi_H} {n : Nat} {f : Nat → Int32} {cb : Nat} {L pc : Nat} {S : List Nat} (hR : RS g m0 q z I R M) (hi77 : I 77 = some (nI cb)) (hi78 : I 78 = some (nI L)) (hF : FK n f I R) (hW : WH S L I R) (hcl : cb + L + 4 ≤ n) (hpl : pc < L) (hL : L < 65536) (hSl : S.length < 65536) (hSL : ∀ p ∈ S, p < L) (ho : by1 f (cb + pc) = 171) (hnp : by4 f (cb + pdN pc + 4) < 65535) (hsw : pdN pc + 8 ≤ L) (hin9 : ∀ i, i < (by4 f (cb + pdN pc + 4) + 1) → cb + waN 171 (pdN pc) i + 4 ≤ n) : pt (mT g) 174 [.ref m0, .int (nI pc)] M (fun v M' => (v = some (.int (nI (thG (fun i => (pc : Int) + (nI (by4 f (cb + waN 171 (pdN pc) i))).toInt) S (by4 f (cb + pdN pc + 4) + 1) 0))) ∧ M = M')) := by
  refine pt_in (b := mb_174 g) rfl (fun kf => ?_)
  show pl (mT g) kf (mb_174 g).2 (0, [(0, .ref m0), (1, .int (nI pc))], [], M) _
  have hn := hF.1
  have LL : ∀ (kf : Nat), (∀ (i : Nat), (i ≤ (by4 f (cb + pdN pc + 4) + 1)) → (thG (fun i => (pc : Int) + (nI (by4 f (cb + waN 171 (pdN pc) i))).toInt) S ((by4 f (cb + pdN pc + 4) + 1) - i) i = thG (fun i => (pc : Int) + (nI (by4 f (cb + waN 171 (pdN pc) i))).toInt) S (by4 f (cb + pdN pc + 4) + 1) 0) →  pl (mT g) kf (mb_174 g).2 (95, [(0, .ref m0), (1, .int (nI pc)), (3, .int (nI i))], [], M) (fun v M' => (v = some (.int (nI (thG (fun i => (pc : Int) + (nI (by4 f (cb + waN 171 (pdN pc) i))).toInt) S (by4 f (cb + pdN pc + 4) + 1) 0))) ∧ M = M'))) := by
    intro kf
    induction kf with
    | zero => exact (by intros; exact pl_0)
    | succ kf ih =>
      intro i hi hth
      refine ps_st1 (S' := (96, [(0, .ref m0), (1, .int (nI pc)), (3, .int (nI i))], [.int (nI i)], M)) rfl rfl rfl ?_
      refine ps_st (S' := (97, [(0, .ref m0), (1, .int (nI pc)), (3, .int (nI i))], [.ref m0, .int (nI i)], M)) rfl rfl rfl ?_
      refine ps_st (S' := (98, [(0, .ref m0), (1, .int (nI pc)), (3, .int (nI i))], [.int (nI pc), .ref m0, .int (nI i)], M)) rfl rfl rfl ?_
      refine pl_call (a := [.ref m0, .int (nI pc)]) (rest := [.int (nI i)]) rfl rfl rfl (rd_waysK (n := n) (f := f) (cb := cb) (L := L) (pc := pc) hR hi77 hF (hcl) (hpl) (hsw) (ho) (by omega)) (fun v1 M2 q3 => ?_)
      obtain ⟨rfl, rfl⟩ := q3
      show pl _ _ _ (101, [(0, .ref m0), (1, .int (nI pc)), (3, .int (nI i))], [.int (nI (by4 f (cb + pdN pc + 4) + 1)), .int (nI i)], M) _
      refine ps_if2 (S1 := (133, [], [], M)) (S2 := (104, [(0, .ref m0), (1, .int (nI pc)), (3, .int (nI i))], [], M)) rfl rfl rfl (fun c_101 => ?_) (fun c_101 => ?_)
      · have c_101 : (nI (by4 f (cb + pdN pc + 4) + 1)) ≤ (nI i) := of_decide_eq_true c_101
        have n_101 : by4 f (cb + pdN pc + 4) + 1 ≤ i := (le_nI (p := by4 f (cb + pdN pc + 4) + 1) (n := i) (by omega) (by omega)).mp c_101
        refine ps_st (S' := (134, [], [.int 1], M)) rfl rfl rfl ?_
        exact ps_ret rfl rfl (⟨congrArg (fun x => some (Value.int (nI x))) (show 1 = thG (fun i => (pc : Int) + (nI (by4 f (cb + waN 171 (pdN pc) i))).toInt) S (by4 f (cb + pdN pc + 4) + 1) 0 from by rw [← hth, show (by4 f (cb + pdN pc + 4) + 1) - i = 0 by omega]; rfl), rfl⟩)
      · have c_101 : ¬ ((nI (by4 f (cb + pdN pc + 4) + 1)) ≤ (nI i)) := of_decide_eq_false c_101
        have n_101 : ¬ (by4 f (cb + pdN pc + 4) + 1 ≤ i) := fun h9 => c_101 ((le_nI (p := by4 f (cb + pdN pc + 4) + 1) (n := i) (by omega) (by omega)).mpr h9)
        have hwi := hin9 i (by omega)
        refine ps_st (S' := (105, [(0, .ref m0), (1, .int (nI pc)), (3, .int (nI i))], [.ref m0], M)) rfl rfl rfl ?_
        refine ps_st (S' := (106, [(0, .ref m0), (1, .int (nI pc)), (3, .int (nI i))], [.int (nI pc), .ref m0], M)) rfl rfl rfl ?_
        refine ps_st (S' := (107, [(0, .ref m0), (1, .int (nI pc)), (3, .int (nI i))], [.long (Int32.toInt64 (nI pc)), .ref m0], M)) rfl rfl rfl ?_
        rw [i2l_nL (p := pc) (by omega)]
        show pl _ _ _ (_, [(0, .ref m0), (1, .int (nI pc)), (3, .int (nI i))], [.long (nL pc), .ref m0], M) _
        refine ps_st (S' := (108, [(0, .ref m0), (1, .int (nI pc)), (3, .int (nI i))], [.ref m0, .long (nL pc), .ref m0], M)) rfl rfl rfl ?_
        refine ps_st (S' := (109, [(0, .ref m0), (1, .int (nI pc)), (3, .int (nI i))], [.ref m0, .ref m0, .long (nL pc), .ref m0], M)) rfl rfl rfl ?_
        refine ps_st (S' := (110, [(0, .ref m0), (1, .int (nI pc)), (3, .int (nI i))], [.int (nI pc), .ref m0, .ref m0, .long (nL pc), .ref m0], M)) rfl rfl rfl ?_
        refine ps_st (S' := (111, [(0, .ref m0), (1, .int (nI pc)), (3, .int (nI i))], [.int (nI i), .int (nI pc), .ref m0, .ref m0, .long (nL pc), .ref m0], M)) rfl rfl rfl ?_
        refine pl_call (a := [.ref m0, .int (nI pc), .int (nI i)]) (rest := [.ref m0, .long (nL pc), .ref m0]) rfl rfl rfl (rd_wayAt (n := n) (f := f) (cb := cb) (L := L) (pc := pc) (o := 171) (i := i) hR hi77 hF (hcl) (hpl) (ho) (by omega) (by omega)) (fun v4 M5 q6 => ?_)
        obtain ⟨rfl, rfl⟩ := q6
        show pl _ _ _ (114, [(0, .ref m0), (1, .int (nI pc)), (3, .int (nI i))], [.int (nI (waN 171 (pdN pc) i)), .ref m0, .long (nL pc), .ref m0], M) _
        refine pl_call (a := [.ref m0, .int (nI (waN 171 (pdN pc) i))]) (rest := [.long (nL pc), .ref m0]) rfl rfl rfl (rd_b4 (n := n) (f := f) (cb := cb) (p := (waN 171 (pdN pc) i)) hR hi77 hF (by omega)) (fun v7 M8 q9 => ?_)
        obtain ⟨rfl, rfl⟩ := q9
        show pl _ _ _ (117, [(0, .ref m0), (1, .int (nI pc)), (3, .int (nI i))], [.int (nI (by4 f (cb + (waN 171 (pdN pc) i)))), .long (nL pc), .ref m0], M) _
        show pl _ _ _ (_, [(0, .ref m0), (1, .int (nI pc)), (3, .int (nI i))], [.int (nI (by4 f (cb + waN 171 (pdN pc) i))), .long (nL pc), .ref m0], M) _
        have hb_114 := by4_lt f (cb + waN 171 (pdN pc) i)
        refine ps_st (S' := (118, [(0, .ref m0), (1, .int (nI pc)), (3, .int (nI i))], [.long (Int32.toInt64 (nI (by4 f (cb + waN 171 (pdN pc) i)))), .long (nL pc), .ref m0], M)) rfl rfl rfl ?_
        refine ps_st (S' := (119, [(0, .ref m0), (1, .int (nI pc)), (3, .int (nI i))], [.long ((nL pc) + (Int32.toInt64 (nI (by4 f (cb + waN 171 (pdN pc) i))))), .ref m0], M)) rfl rfl rfl ?_
        refine pl_call (a := [.ref m0, .long ((nL pc) + (Int32.toInt64 (nI (by4 f (cb + waN 171 (pdN pc) i)))))]) (rest := []) rfl rfl rfl (rd_starts (L := L) (S := S) (t := ((nL pc) + (Int32.toInt64 (nI (by4 f (cb + waN 171 (pdN pc) i)))))) hR hi78 hW (hL) (hSl) (hSL)) (fun v10 M11 q12 => ?_)
        obtain ⟨rfl, rfl⟩ := q12
        show pl _ _ _ (122, [(0, .ref m0), (1, .int (nI pc)), (3, .int (nI i))], [.int (nI (stN S ((nL pc) + (Int32.toInt64 (nI (by4 f (cb + waN 171 (pdN pc) i)))))))], M) _
        refine ps_if (S1 := (127, [(0, .ref m0), (1, .int (nI pc)), (3, .int (nI i))], [], M)) (S2 := (125, [(0, .ref m0), (1, .int (nI pc)), (3, .int (nI i))], [], M)) rfl rfl rfl (fun c_122 => ?_) (fun c_122 => ?_)
        · have c_122 : ¬ (nI (stN S ((nL pc) + (Int32.toInt64 (nI (by4 f (cb + waN 171 (pdN pc) i))))))) = 0 := of_decide_eq_true c_122
          have n_122 : ¬ (stN S ((nL pc) + (Int32.toInt64 (nI (by4 f (cb + waN 171 (pdN pc) i))))) = 0) := fun h9 => c_122 ((eq_nI (p := stN S ((nL pc) + (Int32.toInt64 (nI (by4 f (cb + waN 171 (pdN pc) i)))))) (n := 0) (Nat.lt_trans (le1_st _ _) (by decide)) (by decide)).mpr h9)
          have hok : 0 ≤ (fun i => (pc : Int) + (nI (by4 f (cb + waN 171 (pdN pc) i))).toInt) i ∧ ((fun i => (pc : Int) + (nI (by4 f (cb + waN 171 (pdN pc) i))).toInt) i).toNat ∈ S := Decidable.byContradiction (fun h9 => n_122 (by unfold stN; rw [(show ((nL pc) + (Int32.toInt64 (nI (by4 f (cb + waN 171 (pdN pc) i))))).toInt = _ from an_val (by omega) (i2l_val _) (by have h9 := i32_bd (nI (by4 f (cb + waN 171 (pdN pc) i))); omega)), if_neg h9]))
          refine ps_st (S' := (130, [(3, .int ((nI i) + 1)), (0, .ref m0), (1, .int (nI pc))], [], M)) rfl rfl rfl ?_
          rw [nI_add1 (p := i) (k := 1) (x := 1) rfl (by omega)]
          show pl _ _ _ (_, [(3, .int (nI (i + 1))), (0, .ref m0), (1, .int (nI pc))], [], M) _
          refine ps_st (S' := (95, [(0, .ref m0), (1, .int (nI pc)), (3, .int (nI (i + 1)))], [], M)) rfl rfl rfl ?_
          exact ih (i + 1)  (by omega) (by
              rw [← hth, thG_st (i := i) (j := i) (by omega), if_pos hok])
        · have c_122 : ¬ (¬ (nI (stN S ((nL pc) + (Int32.toInt64 (nI (by4 f (cb + waN 171 (pdN pc) i))))))) = 0) := of_decide_eq_false c_122
          have n_122 : stN S ((nL pc) + (Int32.toInt64 (nI (by4 f (cb + waN 171 (pdN pc) i))))) = 0 := (eq_nI (p := stN S ((nL pc) + (Int32.toInt64 (nI (by4 f (cb + waN 171 (pdN pc) i)))))) (n := 0) (Nat.lt_trans (le1_st _ _) (by decide)) (by decide)).mp (Decidable.not_not.mp c_122)
          have hno : ¬ (0 ≤ (fun i => (pc : Int) + (nI (by4 f (cb + waN 171 (pdN pc) i))).toInt) i ∧ ((fun i => (pc : Int) + (nI (by4 f (cb + waN 171 (pdN pc) i))).toInt) i).toNat ∈ S) := fun h9 => absurd n_122 (by unfold stN; rw [(show ((nL pc) + (Int32.toInt64 (nI (by4 f (cb + waN 171 (pdN pc) i))))).toInt = _ from an_val (by omega) (i2l_val _) (by have h9 := i32_bd (nI (by4 f (cb + waN 171 (pdN pc) i))); omega)), if_pos h9]; decide)
          refine ps_st (S' := (126, [(0, .ref m0), (1, .int (nI pc)), (3, .int (nI i))], [.int 0], M)) rfl rfl rfl ?_
          exact ps_ret rfl rfl (⟨congrArg (fun x => some (Value.int (nI x))) (show 0 = thG (fun i => (pc : Int) + (nI (by4 f (cb + waN 171 (pdN pc) i))).toInt) S (by4 f (cb + pdN pc + 4) + 1) 0 from by rw [← hth, thG_st (i := i) (j := i) (by omega), if_neg hno]), rfl⟩)
  refine ps_st (S' := (1, [(0, .ref m0), (1, .int (nI pc))], [.ref m0], M)) rfl rfl rfl ?_
  refine ps_st (S' := (2, [(0, .ref m0), (1, .int (nI pc))], [.int (nI pc), .ref m0], M)) rfl rfl rfl ?_
  refine pl_call (a := [.ref m0, .int (nI pc)]) (rest := []) rfl rfl rfl (rd_b1 (n := n) (f := f) (cb := cb) (p := pc) hR hi77 hF (by omega)) (fun v13 M14 q15 => ?_)
  obtain ⟨rfl, rfl⟩ := q15
  show pl _ _ _ (5, [(0, .ref m0), (1, .int (nI pc))], [.int (nI (by1 f (cb + pc)))], M) _
  rw [ho]
  show pl _ _ _ (_, [(0, .ref m0), (1, .int (nI pc))], [.int (nI 171)], M) _
  refine ps_st (S' := (6, [(2, .int (nI 171)), (0, .ref m0), (1, .int (nI pc))], [], M)) rfl rfl rfl ?_
  refine ps_st (S' := (7, [(2, .int (nI 171)), (0, .ref m0), (1, .int (nI pc))], [.int (nI 171)], M)) rfl rfl rfl ?_
  refine ps_st (S' := (10, [(2, .int (nI 171)), (0, .ref m0), (1, .int (nI pc))], [.int 153, .int (nI 171)], M)) rfl rfl rfl ?_
  refine ps_if2 (S1 := (20, [(0, .ref m0), (1, .int (nI pc)), (2, .int (nI 171))], [], M)) (S2 := (13, [(2, .int (nI 171)), (0, .ref m0), (1, .int (nI pc))], [], M)) rfl rfl rfl (fun c_10 => ?_) (fun c_10 => ?_)
  · exact absurd (of_decide_eq_true c_10) (by decide)
  refine ps_st (S' := (14, [(2, .int (nI 171)), (0, .ref m0), (1, .int (nI pc))], [.int (nI 171)], M)) rfl rfl rfl ?_
  refine ps_st (S' := (17, [(2, .int (nI 171)), (0, .ref m0), (1, .int (nI pc))], [.int 168, .int (nI 171)], M)) rfl rfl rfl ?_
  refine ps_if2 (S1 := (34, [(0, .ref m0), (1, .int (nI pc))], [], M)) (S2 := (20, [(0, .ref m0), (1, .int (nI pc)), (2, .int (nI 171))], [], M)) rfl rfl rfl (fun c_17 => ?_) (fun c_17 => ?_)
  · exact absurd (of_decide_eq_true c_17) (by decide)
  refine ps_st (S' := (21, [(0, .ref m0), (1, .int (nI pc)), (2, .int (nI 171))], [.int (nI 171)], M)) rfl rfl rfl ?_
  refine ps_st (S' := (24, [(0, .ref m0), (1, .int (nI pc)), (2, .int (nI 171))], [.int 198, .int (nI 171)], M)) rfl rfl rfl ?_
  refine ps_if2 (S1 := (34, [(0, .ref m0), (1, .int (nI pc))], [], M)) (S2 := (27, [(0, .ref m0), (1, .int (nI pc)), (2, .int (nI 171))], [], M)) rfl rfl rfl (fun c_24 => ?_) (fun c_24 => ?_)
  · exact absurd (of_decide_eq_true c_24) (by decide)
  refine ps_st (S' := (28, [(0, .ref m0), (1, .int (nI pc)), (2, .int (nI 171))], [.int (nI 171)], M)) rfl rfl rfl ?_
  refine ps_st (S' := (31, [(0, .ref m0), (1, .int (nI pc)), (2, .int (nI 171))], [.int 199, .int (nI 171)], M)) rfl rfl rfl ?_
  refine ps_if2 (S1 := (49, [(0, .ref m0), (1, .int (nI pc)), (2, .int (nI 171))], [], M)) (S2 := (34, [(0, .ref m0), (1, .int (nI pc))], [], M)) rfl rfl rfl (fun c_31 => ?_) (fun c_31 => ?_)
  rotate_left
  · exact absurd (by decide) (of_decide_eq_false c_31)
  refine ps_st (S' := (50, [(0, .ref m0), (1, .int (nI pc)), (2, .int (nI 171))], [.int (nI 171)], M)) rfl rfl rfl ?_
  refine ps_st (S' := (53, [(0, .ref m0), (1, .int (nI pc)), (2, .int (nI 171))], [.int 200, .int (nI 171)], M)) rfl rfl rfl ?_
  refine ps_if2 (S1 := (63, [(0, .ref m0), (1, .int (nI pc))], [], M)) (S2 := (56, [(0, .ref m0), (1, .int (nI pc)), (2, .int (nI 171))], [], M)) rfl rfl rfl (fun c_53 => ?_) (fun c_53 => ?_)
  · exact absurd (of_decide_eq_true c_53) (by decide)
  refine ps_st (S' := (57, [(0, .ref m0), (1, .int (nI pc)), (2, .int (nI 171))], [.int (nI 171)], M)) rfl rfl rfl ?_
  refine ps_st (S' := (60, [(0, .ref m0), (1, .int (nI pc)), (2, .int (nI 171))], [.int 201, .int (nI 171)], M)) rfl rfl rfl ?_
  refine ps_if2 (S1 := (79, [(0, .ref m0), (1, .int (nI pc)), (2, .int (nI 171))], [], M)) (S2 := (63, [(0, .ref m0), (1, .int (nI pc))], [], M)) rfl rfl rfl (fun c_60 => ?_) (fun c_60 => ?_)
  rotate_left
  · exact absurd (by decide) (of_decide_eq_false c_60)
  refine ps_st (S' := (80, [(0, .ref m0), (1, .int (nI pc)), (2, .int (nI 171))], [.int (nI 171)], M)) rfl rfl rfl ?_
  refine ps_st (S' := (83, [(0, .ref m0), (1, .int (nI pc)), (2, .int (nI 171))], [.int 170, .int (nI 171)], M)) rfl rfl rfl ?_
  refine ps_if2 (S1 := (93, [(0, .ref m0), (1, .int (nI pc))], [], M)) (S2 := (86, [(0, .ref m0), (1, .int (nI pc)), (2, .int (nI 171))], [], M)) rfl rfl rfl (fun c_83 => ?_) (fun c_83 => ?_)
  · exact absurd (of_decide_eq_true c_83) (by decide)
  refine ps_st (S' := (87, [(0, .ref m0), (1, .int (nI pc)), (2, .int (nI 171))], [.int (nI 171)], M)) rfl rfl rfl ?_
  refine ps_st (S' := (90, [(0, .ref m0), (1, .int (nI pc)), (2, .int (nI 171))], [.int 171, .int (nI 171)], M)) rfl rfl rfl ?_
  refine ps_if2 (S1 := (133, [], [], M)) (S2 := (93, [(0, .ref m0), (1, .int (nI pc))], [], M)) rfl rfl rfl (fun c_90 => ?_) (fun c_90 => ?_)
  · exact absurd (of_decide_eq_true c_90) (by decide)
  refine ps_st (S' := (94, [(0, .ref m0), (1, .int (nI pc))], [.int 0], M)) rfl rfl rfl ?_
  refine ps_st (S' := (95, [(0, .ref m0), (1, .int (nI pc)), (3, .int 0)], [], M)) rfl rfl rfl ?_
  exact (LL kf) (0)  (Nat.zero_le _) (rfl)
