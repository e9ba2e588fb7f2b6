set_option maxHeartbeats 1000000 in
theorem rd_entryB {g : xe_G} {m0 : Nat} {q : Nat → Nat} {z : Nat × Nat} {I : rI} {R : rR} {M : mi_H} {k p : Int32} (hR : RS g m0 q z I R M)   (hbad : p < 0 ∨ ¬ p ≤ 2) : pt (mT g) 204 [.ref m0, .int k, .int p] M (fun v M' => (∃  (I' : rI) (R' : rR), v = some (.int 0) ∧ RS g m0 q z I' R' M' ∧ eqI [0] I I' ∧ eqR [] R R' ∧ I' 0 = some 1)) := by
  refine pt_in (b := mb_204 g) rfl (fun kf => ?_)
  show pl (mT g) kf (mb_204 g).2 (0, [(0, .ref m0), (1, .int k), (2, .int p)], [], M) _
  have hEI : eqI [0] I I := eqI.rf
  have hER : eqR [] R R := eqR.rf
  refine ps_st (S' := (1, [(0, .ref m0), (1, .int k), (2, .int p)], [.ref m0], M)) rfl rfl rfl ?_
  refine ps_st (S' := (2, [(0, .ref m0), (1, .int k), (2, .int p)], [.int 0, .ref m0], M)) rfl rfl rfl ?_
  refine pr_put (j := 0) rfl hR rfl (fun M1 I2 hR3 hi4 hI5 => ?_)
  have hEI6 := hEI.put hI5 (by decide)
  show pl _ _ _ (5, [(0, .ref m0), (1, .int k), (2, .int p)], [], M1) _
  refine ps_st (S' := (6, [(0, .ref m0), (1, .int k), (2, .int p)], [.int p], M1)) rfl rfl rfl ?_
  refine ps_if (S1 := (14, [(0, .ref m0)], [], M1)) (S2 := (9, [(0, .ref m0), (1, .int k), (2, .int p)], [], M1)) rfl rfl rfl (fun c_6 => ?_) (fun c_6 => ?_)
  · have c_6 : p < 0 := of_decide_eq_true c_6
    refine ps_st (S' := (15, [(0, .ref m0)], [.ref m0], M1)) rfl rfl rfl ?_
    refine pl_call (a := [.ref m0]) (rest := []) rfl rfl rfl (rd_bad hR3) (fun v7 M8 q9 => ?_)
    obtain ⟨I10, R11, rfl, hR12, hI13, hX14, hi15⟩ := q9
    have hEI16 := hEI6.tr hI13 (by decide)
    have hER17 := hER.tr hX14 (by decide)
    show pl _ _ _ (18, [(0, .ref m0)], [.int 0], M8) _
    exact ps_ret rfl rfl (⟨I10, R11, rfl, hR12, hEI16, hER17, hi15⟩)
  · have c_6 : ¬ (p < 0) := of_decide_eq_false c_6
    refine ps_st (S' := (10, [(0, .ref m0), (1, .int k), (2, .int p)], [.int p], M1)) rfl rfl rfl ?_
    refine ps_st (S' := (11, [(0, .ref m0), (1, .int k), (2, .int p)], [.int 2, .int p], M1)) rfl rfl rfl ?_
    refine ps_if2 (S1 := (19, [(0, .ref m0), (1, .int k), (2, .int p)], [], M1)) (S2 := (14, [(0, .ref m0)], [], M1)) rfl rfl rfl (fun c_11 => ?_) (fun c_11 => ?_)
    · have c_11 : p ≤ 2 := of_decide_eq_true c_11
      exfalso
      rcases hbad with h9 | h9
      · exact absurd h9 (by assumption)
      · exact h9 (by assumption)
    · have c_11 : ¬ (p ≤ 2) := of_decide_eq_false c_11
      refine ps_st (S' := (15, [(0, .ref m0)], [.ref m0], M1)) rfl rfl rfl ?_
      refine pl_call (a := [.ref m0]) (rest := []) rfl rfl rfl (rd_bad hR3) (fun v18 M19 q20 => ?_)
      obtain ⟨I21, R22, rfl, hR23, hI24, hX25, hi26⟩ := q20
      have hEI27 := hEI6.tr hI24 (by decide)
      have hER28 := hER.tr hX25 (by decide)
      show pl _ _ _ (18, [(0, .ref m0)], [.int 0], M19) _
      exact ps_ret rfl rfl (⟨I21, R22, rfl, hR23, hEI27, hER28, hi26⟩)
set_option maxHeartbeats 1000000 in
theorem rd_entry0 {g : xe_G} {m0 : Nat} {q : Nat → Nat} {z : Nat × Nat} {I : rI} {R : rR} {M : mi_H} {kn k p : Int32} (hR : RS g m0 q z I R M) (hi18 : I 18 = some kn)  (hp0 : ¬ p < 0) (hp1 : p ≤ 2) (hk : kn < 0) : pt (mT g) 204 [.ref m0, .int k, .int p] M (fun v M' => (∃  (I' : rI) (R' : rR), v = some (.int (-1)) ∧ RS g m0 q z I' R' M' ∧ eqI [0] I I' ∧ eqR [] R R' ∧ I' 0 = some 0)) := by
  refine pt_in (b := mb_204 g) rfl (fun kf => ?_)
  show pl (mT g) kf (mb_204 g).2 (0, [(0, .ref m0), (1, .int k), (2, .int p)], [], M) _
  have hEI : eqI [0] I I := eqI.rf
  have hER : eqR [] R R := eqR.rf
  refine ps_st (S' := (1, [(0, .ref m0), (1, .int k), (2, .int p)], [.ref m0], M)) rfl rfl rfl ?_
  refine ps_st (S' := (2, [(0, .ref m0), (1, .int k), (2, .int p)], [.int 0, .ref m0], M)) rfl rfl rfl ?_
  refine pr_put (j := 0) rfl hR rfl (fun M1 I2 hR3 hi4 hI5 => ?_)
  have hi6 := (hI5 18 (by decide)).trans hi18
  have hEI7 := hEI.put hI5 (by decide)
  show pl _ _ _ (5, [(0, .ref m0), (1, .int k), (2, .int p)], [], M1) _
  refine ps_st (S' := (6, [(0, .ref m0), (1, .int k), (2, .int p)], [.int p], M1)) rfl rfl rfl ?_
  refine ps_if (S1 := (14, [(0, .ref m0)], [], M1)) (S2 := (9, [(0, .ref m0), (1, .int k), (2, .int p)], [], M1)) rfl rfl rfl (fun c_6 => ?_) (fun c_6 => ?_)
  · exact absurd (of_decide_eq_true c_6) (hp0)
  refine ps_st (S' := (10, [(0, .ref m0), (1, .int k), (2, .int p)], [.int p], M1)) rfl rfl rfl ?_
  refine ps_st (S' := (11, [(0, .ref m0), (1, .int k), (2, .int p)], [.int 2, .int p], M1)) rfl rfl rfl ?_
  refine ps_if2 (S1 := (19, [(0, .ref m0), (1, .int k), (2, .int p)], [], M1)) (S2 := (14, [(0, .ref m0)], [], M1)) rfl rfl rfl (fun c_11 => ?_) (fun c_11 => ?_)
  rotate_left
  · exact absurd (hp1) (of_decide_eq_false c_11)
  refine ps_st (S' := (20, [(0, .ref m0), (1, .int k), (2, .int p)], [.ref m0], M1)) rfl rfl rfl ?_
  refine pr_int (j := 18) (S' := (23, [(0, .ref m0), (1, .int k), (2, .int p)], [.int kn], M1)) rfl hR3 rfl hi6 rfl ?_
  refine ps_if (S1 := (38, [], [], M1)) (S2 := (26, [(0, .ref m0), (1, .int k), (2, .int p)], [], M1)) rfl rfl rfl (fun c_23 => ?_) (fun c_23 => ?_)
  rotate_left
  · exact absurd (hk) (of_decide_eq_false c_23)
  refine ps_st (S' := (39, [], [.int (-1)], M1)) rfl rfl rfl ?_
  exact ps_ret rfl rfl (⟨I2, R, rfl, hR3, hEI7, hER, hi4⟩)
set_option maxHeartbeats 1000000 in
theorem rd_entryN {g : xe_G} {m0 : Nat} {q : Nat → Nat} {z : Nat × Nat} {I : rI} {R : rR} {M : mi_H} {n : Nat} {f : Nat → Int32} {tx : List (List Nat)} {cN : Nat} {A : Nat → Nat} {N mj : Nat} {E : List (Nat × Nat)} {k p : Int32} {n2 : Nat} (hR : RS g m0 q z I R M) (hi18 : I 18 = some (nI n2)) (hi51 : I 51 = some 0) (hi52 : I 52 = some (nI N)) (hi53 : I 53 = some (nI mj)) (hF : FK n f I R) (hY : SYT tx cN A I R) (hP : RPV f n E tx N I R) (hEP : EP f n E) (hN : N < 65536) (hp0 : ¬ p < 0) (hp1 : p ≤ 2) (hn2 : n2 ≤ 65540) (hk : k < 0 ∨ nI N ≤ k) : pt (mT g) 204 [.ref m0, .int k, .int p] M (fun v M' => (∃  (I' : rI) (R' : rR), v = some (.int (-1)) ∧ RS g m0 q z I' R' M' ∧ eqI [0] I I' ∧ eqR [] R R' ∧ I' 0 = some 0)) := by
  refine pt_in (b := mb_204 g) rfl (fun kf => ?_)
  show pl (mT g) kf (mb_204 g).2 (0, [(0, .ref m0), (1, .int k), (2, .int p)], [], M) _
  have hEI : eqI [0] I I := eqI.rf
  have hER : eqR [] R R := eqR.rf
  refine ps_st (S' := (1, [(0, .ref m0), (1, .int k), (2, .int p)], [.ref m0], M)) rfl rfl rfl ?_
  refine ps_st (S' := (2, [(0, .ref m0), (1, .int k), (2, .int p)], [.int 0, .ref m0], M)) rfl rfl rfl ?_
  refine pr_put (j := 0) rfl hR rfl (fun M1 I2 hR3 hi4 hI5 => ?_)
  have hi6 := (hI5 18 (by decide)).trans hi18
  have hi7 := (hI5 51 (by decide)).trans hi51
  have hi8 := (hI5 52 (by decide)).trans hi52
  have hi9 := (hI5 53 (by decide)).trans hi53
  have hF_10 := hF.mono (pIx hI5 (by decide)) (fun _ _ => rfl)
  have hY_11 := hY.mono (pIx hI5 (by decide)) (fun _ _ => rfl)
  have hP_12 := hP.mono (pIx hI5 (by decide)) (fun _ _ => rfl)
  have hEI13 := hEI.put hI5 (by decide)
  show pl _ _ _ (5, [(0, .ref m0), (1, .int k), (2, .int p)], [], M1) _
  refine ps_st (S' := (6, [(0, .ref m0), (1, .int k), (2, .int p)], [.int p], M1)) rfl rfl rfl ?_
  refine ps_if (S1 := (14, [(0, .ref m0)], [], M1)) (S2 := (9, [(0, .ref m0), (1, .int k), (2, .int p)], [], M1)) rfl rfl rfl (fun c_6 => ?_) (fun c_6 => ?_)
  · exact absurd (of_decide_eq_true c_6) (hp0)
  refine ps_st (S' := (10, [(0, .ref m0), (1, .int k), (2, .int p)], [.int p], M1)) rfl rfl rfl ?_
  refine ps_st (S' := (11, [(0, .ref m0), (1, .int k), (2, .int p)], [.int 2, .int p], M1)) rfl rfl rfl ?_
  refine ps_if2 (S1 := (19, [(0, .ref m0), (1, .int k), (2, .int p)], [], M1)) (S2 := (14, [(0, .ref m0)], [], M1)) rfl rfl rfl (fun c_11 => ?_) (fun c_11 => ?_)
  rotate_left
  · exact absurd (hp1) (of_decide_eq_false c_11)
  refine ps_st (S' := (20, [(0, .ref m0), (1, .int k), (2, .int p)], [.ref m0], M1)) rfl rfl rfl ?_
  refine pr_int (j := 18) (S' := (23, [(0, .ref m0), (1, .int k), (2, .int p)], [.int (nI n2)], M1)) rfl hR3 rfl hi6 rfl ?_
  refine ps_if (S1 := (38, [], [], M1)) (S2 := (26, [(0, .ref m0), (1, .int k), (2, .int p)], [], M1)) rfl rfl rfl (fun c_23 => ?_) (fun c_23 => ?_)
  · exact absurd (of_decide_eq_true c_23) (show ¬ ((nI n2) < 0) from fun h9 => absurd ((lt_nI (p := n2) (n := 0) (by omega) (by decide)).mp h9) (by omega))
  refine ps_st (S' := (27, [(0, .ref m0), (1, .int k), (2, .int p)], [.int k], M1)) rfl rfl rfl ?_
  refine ps_if (S1 := (38, [], [], M1)) (S2 := (30, [(0, .ref m0), (1, .int k), (2, .int p)], [], M1)) rfl rfl rfl (fun c_27 => ?_) (fun c_27 => ?_)
  · have c_27 : k < 0 := of_decide_eq_true c_27
    refine ps_st (S' := (39, [], [.int (-1)], M1)) rfl rfl rfl ?_
    exact ps_ret rfl rfl (⟨I2, R, rfl, hR3, hEI13, hER, hi4⟩)
  · have c_27 : ¬ (k < 0) := of_decide_eq_false c_27
    refine ps_st (S' := (31, [(0, .ref m0), (1, .int k), (2, .int p)], [.int k], M1)) rfl rfl rfl ?_
    refine ps_st (S' := (32, [(0, .ref m0), (1, .int k), (2, .int p)], [.ref m0, .int k], M1)) rfl rfl rfl ?_
    refine pr_int (j := 52) (S' := (35, [(0, .ref m0), (1, .int k), (2, .int p)], [.int (nI N), .int k], M1)) rfl hR3 rfl hi8 rfl ?_
    refine ps_if2 (S1 := (40, [(0, .ref m0), (1, .int k), (2, .int p)], [], M1)) (S2 := (38, [], [], M1)) rfl rfl rfl (fun c_35 => ?_) (fun c_35 => ?_)
    · exact absurd (of_decide_eq_true c_35) (Int32.not_lt.mpr (hk.resolve_left c_27))
    refine ps_st (S' := (39, [], [.int (-1)], M1)) rfl rfl rfl ?_
    exact ps_ret rfl rfl (⟨I2, R, rfl, hR3, hEI13, hER, hi4⟩)
set_option maxHeartbeats 1000000 in
theorem rd_entry_0 {g : xe_G} {m0 : Nat} {q : Nat → Nat} {z : Nat × Nat} {I : rI} {R : rR} {M : mi_H} {n : Nat} {f : Nat → Int32} {tx : List (List Nat)} {cN : Nat} {A : Nat → Nat} {N mj : Nat} {E : List (Nat × Nat)} {j n2 p1 : Nat} (hR : RS g m0 q z I R M) (hi18 : I 18 = some (nI n2)) (hi51 : I 51 = some 0) (hi52 : I 52 = some (nI N)) (hi53 : I 53 = some (nI mj)) (hF : FK n f I R) (hY : SYT tx cN A I R) (hP : RPV f n E tx N I R) (hEP : EP f n E) (hN : N < 65536) (hmj : mj < 65536) (hn2 : n2 ≤ 65540) (hj : j < N) (hpl : s_pool f n mj = .inr (p1, E)) : pt (mT g) 204 [.ref m0, .int (nI j), .int 0] M (fun v M' => (∃  (I' : rI) (R' : rR), v = some (.int (nI (tg f E j))) ∧ RS g m0 q z I' R' M' ∧ eqI [0] I I' ∧ eqR [] R R' ∧ I' 0 = some 0)) := by
  refine pt_in (b := mb_204 g) rfl (fun kf => ?_)
  show pl (mT g) kf (mb_204 g).2 (0, [(0, .ref m0), (1, .int (nI j)), (2, .int 0)], [], M) _
  have hEI : eqI [0] I I := eqI.rf
  have hER : eqR [] R R := eqR.rf
  have hn := hF.1
  have hto := tg_ok (k := j) hpl
  unfold tgOk at hto
  have htl9 := tg_lt f E j
  refine ps_st (S' := (1, [(0, .ref m0), (1, .int (nI j)), (2, .int 0)], [.ref m0], M)) rfl rfl rfl ?_
  refine ps_st (S' := (2, [(0, .ref m0), (1, .int (nI j)), (2, .int 0)], [.int 0, .ref m0], M)) rfl rfl rfl ?_
  refine pr_put (j := 0) rfl hR rfl (fun M1 I2 hR3 hi4 hI5 => ?_)
  have hi6 := (hI5 18 (by decide)).trans hi18
  have hi7 := (hI5 51 (by decide)).trans hi51
  have hi8 := (hI5 52 (by decide)).trans hi52
  have hi9 := (hI5 53 (by decide)).trans hi53
  have hF_10 := hF.mono (pIx hI5 (by decide)) (fun _ _ => rfl)
  have hY_11 := hY.mono (pIx hI5 (by decide)) (fun _ _ => rfl)
  have hP_12 := hP.mono (pIx hI5 (by decide)) (fun _ _ => rfl)
  have hEI13 := hEI.put hI5 (by decide)
  show pl _ _ _ (5, [(0, .ref m0), (1, .int (nI j)), (2, .int 0)], [], M1) _
  refine ps_st (S' := (6, [(0, .ref m0), (1, .int (nI j)), (2, .int 0)], [.int 0], M1)) rfl rfl rfl ?_
  refine ps_if (S1 := (14, [(0, .ref m0)], [], M1)) (S2 := (9, [(0, .ref m0), (1, .int (nI j)), (2, .int 0)], [], M1)) rfl rfl rfl (fun c_6 => ?_) (fun c_6 => ?_)
  · exact absurd (of_decide_eq_true c_6) (by decide)
  refine ps_st (S' := (10, [(0, .ref m0), (1, .int (nI j)), (2, .int 0)], [.int 0], M1)) rfl rfl rfl ?_
  refine ps_st (S' := (11, [(0, .ref m0), (1, .int (nI j)), (2, .int 0)], [.int 2, .int 0], M1)) rfl rfl rfl ?_
  refine ps_if2 (S1 := (19, [(0, .ref m0), (1, .int (nI j)), (2, .int 0)], [], M1)) (S2 := (14, [(0, .ref m0)], [], M1)) rfl rfl rfl (fun c_11 => ?_) (fun c_11 => ?_)
  rotate_left
  · exact absurd (by decide) (of_decide_eq_false c_11)
  refine ps_st (S' := (20, [(0, .ref m0), (1, .int (nI j)), (2, .int 0)], [.ref m0], M1)) rfl rfl rfl ?_
  refine pr_int (j := 18) (S' := (23, [(0, .ref m0), (1, .int (nI j)), (2, .int 0)], [.int (nI n2)], M1)) rfl hR3 rfl hi6 rfl ?_
  refine ps_if (S1 := (38, [], [], M1)) (S2 := (26, [(0, .ref m0), (1, .int (nI j)), (2, .int 0)], [], M1)) rfl rfl rfl (fun c_23 => ?_) (fun c_23 => ?_)
  · exact absurd (of_decide_eq_true c_23) (show ¬ ((nI n2) < 0) from fun h9 => absurd ((lt_nI (p := n2) (n := 0) (by omega) (by decide)).mp h9) (by omega))
  refine ps_st (S' := (27, [(0, .ref m0), (1, .int (nI j)), (2, .int 0)], [.int (nI j)], M1)) rfl rfl rfl ?_
  refine ps_if (S1 := (38, [], [], M1)) (S2 := (30, [(0, .ref m0), (1, .int (nI j)), (2, .int 0)], [], M1)) rfl rfl rfl (fun c_27 => ?_) (fun c_27 => ?_)
  · exact absurd (of_decide_eq_true c_27) (show ¬ ((nI j) < 0) from fun h9 => absurd ((lt_nI (p := j) (n := 0) (by omega) (by decide)).mp h9) (by omega))
  refine ps_st (S' := (31, [(0, .ref m0), (1, .int (nI j)), (2, .int 0)], [.int (nI j)], M1)) rfl rfl rfl ?_
  refine ps_st (S' := (32, [(0, .ref m0), (1, .int (nI j)), (2, .int 0)], [.ref m0, .int (nI j)], M1)) rfl rfl rfl ?_
  refine pr_int (j := 52) (S' := (35, [(0, .ref m0), (1, .int (nI j)), (2, .int 0)], [.int (nI N), .int (nI j)], M1)) rfl hR3 rfl hi8 rfl ?_
  refine ps_if2 (S1 := (40, [(0, .ref m0), (1, .int (nI j)), (2, .int 0)], [], M1)) (S2 := (38, [], [], M1)) rfl rfl rfl (fun c_35 => ?_) (fun c_35 => ?_)
  rotate_left
  · exact absurd ((lt_nI (by omega) (by omega)).mpr hj) (of_decide_eq_false c_35)
  refine ps_st (S' := (41, [(0, .ref m0), (1, .int (nI j)), (2, .int 0)], [.ref m0], M1)) rfl rfl rfl ?_
  refine ps_st (S' := (42, [(0, .ref m0), (1, .int (nI j)), (2, .int 0)], [.int (nI j), .ref m0], M1)) rfl rfl rfl ?_
  refine pl_call (a := [.ref m0, .int (nI j)]) (rest := []) rfl rfl rfl (rd_tag (n := n) (f := f) (tx := tx) (cN := cN) (A := A) (N := N) (mj := mj) (E := E) (k := j) hR3 hi7 hi8 hi9 hF_10 hY_11 hP_12 (hEP) (hN) (hmj) (by omega)) (fun v14 M15 q16 => ?_)
  obtain ⟨rfl, rfl⟩ := q16
  show pl _ _ _ (45, [(0, .ref m0), (1, .int (nI j)), (2, .int 0)], [.int (nI (tg f E j))], M1) _
  have htg_42 := tg_lt f E j
  refine ps_st (S' := (46, [(3, .int (nI (tg f E j))), (0, .ref m0), (1, .int (nI j)), (2, .int 0)], [], M1)) rfl rfl rfl ?_
  refine ps_st (S' := (47, [(3, .int (nI (tg f E j))), (0, .ref m0), (1, .int (nI j)), (2, .int 0)], [.int 0], M1)) rfl rfl rfl ?_
  refine ps_if (S1 := (52, [(3, .int (nI (tg f E j))), (0, .ref m0), (1, .int (nI j)), (2, .int 0)], [], M1)) (S2 := (50, [(3, .int (nI (tg f E j))), (0, .ref m0), (1, .int (nI j)), (2, .int 0)], [], M1)) rfl rfl rfl (fun c_47 => ?_) (fun c_47 => ?_)
  · exact absurd (of_decide_eq_true c_47) (by decide)
  refine ps_st (S' := (51, [(3, .int (nI (tg f E j))), (0, .ref m0), (1, .int (nI j)), (2, .int 0)], [.int (nI (tg f E j))], M1)) rfl rfl rfl ?_
  exact ps_reti rfl (⟨I2, R, rfl, hR3, hEI13, hER, hi4⟩)
set_option maxHeartbeats 1000000 in
theorem rd_entry_1 {g : xe_G} {m0 : Nat} {q : Nat → Nat} {z : Nat × Nat} {I : rI} {R : rR} {M : mi_H} {n : Nat} {f : Nat → Int32} {tx : List (List Nat)} {cN : Nat} {A : Nat → Nat} {N mj : Nat} {E : List (Nat × Nat)} {j n2 p1 : Nat} (hR : RS g m0 q z I R M) (hi18 : I 18 = some (nI n2)) (hi51 : I 51 = some 0) (hi52 : I 52 = some (nI N)) (hi53 : I 53 = some (nI mj)) (hF : FK n f I R) (hY : SYT tx cN A I R) (hP : RPV f n E tx N I R) (hEP : EP f n E) (hN : N < 65536) (hmj : mj < 65536) (hn2 : n2 ≤ 65540) (hj : j < N) (hpl : s_pool f n mj = .inr (p1, E)) : pt (mT g) 204 [.ref m0, .int (nI j), .int 1] M (fun v M' => (∃  (I' : rI) (R' : rR), v = some (.int (nI (fi f E j))) ∧ RS g m0 q z I' R' M' ∧ eqI [0] I I' ∧ eqR [] R R' ∧ I' 0 = some 0)) := by
  refine pt_in (b := mb_204 g) rfl (fun kf => ?_)
  show pl (mT g) kf (mb_204 g).2 (0, [(0, .ref m0), (1, .int (nI j)), (2, .int 1)], [], M) _
  have hEI : eqI [0] I I := eqI.rf
  have hER : eqR [] R R := eqR.rf
  have hn := hF.1
  have hto := tg_ok (k := j) hpl
  unfold tgOk at hto
  have htl9 := tg_lt f E j
  refine ps_st (S' := (1, [(0, .ref m0), (1, .int (nI j)), (2, .int 1)], [.ref m0], M)) rfl rfl rfl ?_
  refine ps_st (S' := (2, [(0, .ref m0), (1, .int (nI j)), (2, .int 1)], [.int 0, .ref m0], M)) rfl rfl rfl ?_
  refine pr_put (j := 0) rfl hR rfl (fun M1 I2 hR3 hi4 hI5 => ?_)
  have hi6 := (hI5 18 (by decide)).trans hi18
  have hi7 := (hI5 51 (by decide)).trans hi51
  have hi8 := (hI5 52 (by decide)).trans hi52
  have hi9 := (hI5 53 (by decide)).trans hi53
  have hF_10 := hF.mono (pIx hI5 (by decide)) (fun _ _ => rfl)
  have hY_11 := hY.mono (pIx hI5 (by decide)) (fun _ _ => rfl)
  have hP_12 := hP.mono (pIx hI5 (by decide)) (fun _ _ => rfl)
  have hEI13 := hEI.put hI5 (by decide)
  show pl _ _ _ (5, [(0, .ref m0), (1, .int (nI j)), (2, .int 1)], [], M1) _
  refine ps_st (S' := (6, [(0, .ref m0), (1, .int (nI j)), (2, .int 1)], [.int 1], M1)) rfl rfl rfl ?_
  refine ps_if (S1 := (14, [(0, .ref m0)], [], M1)) (S2 := (9, [(0, .ref m0), (1, .int (nI j)), (2, .int 1)], [], M1)) rfl rfl rfl (fun c_6 => ?_) (fun c_6 => ?_)
  · exact absurd (of_decide_eq_true c_6) (by decide)
  refine ps_st (S' := (10, [(0, .ref m0), (1, .int (nI j)), (2, .int 1)], [.int 1], M1)) rfl rfl rfl ?_
  refine ps_st (S' := (11, [(0, .ref m0), (1, .int (nI j)), (2, .int 1)], [.int 2, .int 1], M1)) rfl rfl rfl ?_
  refine ps_if2 (S1 := (19, [(0, .ref m0), (1, .int (nI j)), (2, .int 1)], [], M1)) (S2 := (14, [(0, .ref m0)], [], M1)) rfl rfl rfl (fun c_11 => ?_) (fun c_11 => ?_)
  rotate_left
  · exact absurd (by decide) (of_decide_eq_false c_11)
  refine ps_st (S' := (20, [(0, .ref m0), (1, .int (nI j)), (2, .int 1)], [.ref m0], M1)) rfl rfl rfl ?_
  refine pr_int (j := 18) (S' := (23, [(0, .ref m0), (1, .int (nI j)), (2, .int 1)], [.int (nI n2)], M1)) rfl hR3 rfl hi6 rfl ?_
  refine ps_if (S1 := (38, [], [], M1)) (S2 := (26, [(0, .ref m0), (1, .int (nI j)), (2, .int 1)], [], M1)) rfl rfl rfl (fun c_23 => ?_) (fun c_23 => ?_)
  · exact absurd (of_decide_eq_true c_23) (show ¬ ((nI n2) < 0) from fun h9 => absurd ((lt_nI (p := n2) (n := 0) (by omega) (by decide)).mp h9) (by omega))
  refine ps_st (S' := (27, [(0, .ref m0), (1, .int (nI j)), (2, .int 1)], [.int (nI j)], M1)) rfl rfl rfl ?_
  refine ps_if (S1 := (38, [], [], M1)) (S2 := (30, [(0, .ref m0), (1, .int (nI j)), (2, .int 1)], [], M1)) rfl rfl rfl (fun c_27 => ?_) (fun c_27 => ?_)
  · exact absurd (of_decide_eq_true c_27) (show ¬ ((nI j) < 0) from fun h9 => absurd ((lt_nI (p := j) (n := 0) (by omega) (by decide)).mp h9) (by omega))
  refine ps_st (S' := (31, [(0, .ref m0), (1, .int (nI j)), (2, .int 1)], [.int (nI j)], M1)) rfl rfl rfl ?_
  refine ps_st (S' := (32, [(0, .ref m0), (1, .int (nI j)), (2, .int 1)], [.ref m0, .int (nI j)], M1)) rfl rfl rfl ?_
  refine pr_int (j := 52) (S' := (35, [(0, .ref m0), (1, .int (nI j)), (2, .int 1)], [.int (nI N), .int (nI j)], M1)) rfl hR3 rfl hi8 rfl ?_
  refine ps_if2 (S1 := (40, [(0, .ref m0), (1, .int (nI j)), (2, .int 1)], [], M1)) (S2 := (38, [], [], M1)) rfl rfl rfl (fun c_35 => ?_) (fun c_35 => ?_)
  rotate_left
  · exact absurd ((lt_nI (by omega) (by omega)).mpr hj) (of_decide_eq_false c_35)
  refine ps_st (S' := (41, [(0, .ref m0), (1, .int (nI j)), (2, .int 1)], [.ref m0], M1)) rfl rfl rfl ?_
  refine ps_st (S' := (42, [(0, .ref m0), (1, .int (nI j)), (2, .int 1)], [.int (nI j), .ref m0], M1)) rfl rfl rfl ?_
  refine pl_call (a := [.ref m0, .int (nI j)]) (rest := []) rfl rfl rfl (rd_tag (n := n) (f := f) (tx := tx) (cN := cN) (A := A) (N := N) (mj := mj) (E := E) (k := j) hR3 hi7 hi8 hi9 hF_10 hY_11 hP_12 (hEP) (hN) (hmj) (by omega)) (fun v14 M15 q16 => ?_)
  obtain ⟨rfl, rfl⟩ := q16
  show pl _ _ _ (45, [(0, .ref m0), (1, .int (nI j)), (2, .int 1)], [.int (nI (tg f E j))], M1) _
  have htg_42 := tg_lt f E j
  refine ps_st (S' := (46, [(3, .int (nI (tg f E j))), (0, .ref m0), (1, .int (nI j)), (2, .int 1)], [], M1)) rfl rfl rfl ?_
  refine ps_st (S' := (47, [(3, .int (nI (tg f E j))), (0, .ref m0), (1, .int (nI j)), (2, .int 1)], [.int 1], M1)) rfl rfl rfl ?_
  refine ps_if (S1 := (52, [(3, .int (nI (tg f E j))), (0, .ref m0), (1, .int (nI j)), (2, .int 1)], [], M1)) (S2 := (50, [(3, .int (nI (tg f E j))), (0, .ref m0), (1, .int (nI j)), (2, .int 1)], [], M1)) rfl rfl rfl (fun c_47 => ?_) (fun c_47 => ?_)
  rotate_left
  · exact absurd (by decide) (of_decide_eq_false c_47)
  refine ps_st (S' := (53, [(3, .int (nI (tg f E j))), (0, .ref m0), (1, .int (nI j)), (2, .int 1)], [.int (nI (tg f E j))], M1)) rfl rfl rfl ?_
  refine ps_st (S' := (55, [(3, .int (nI (tg f E j))), (0, .ref m0), (1, .int (nI j)), (2, .int 1)], [.int 15, .int (nI (tg f E j))], M1)) rfl rfl rfl ?_
  refine ps_if2 (S1 := (85, [(3, .int (nI (tg f E j))), (0, .ref m0), (1, .int (nI j)), (2, .int 1)], [], M1)) (S2 := (58, [(3, .int (nI (tg f E j))), (0, .ref m0), (1, .int (nI j)), (2, .int 1)], [], M1)) rfl rfl rfl (fun c_55 => ?_) (fun c_55 => ?_)
  · have c_55 : ¬ (nI (tg f E j)) = 15 := of_decide_eq_true c_55
    have n_55 : ¬ (tg f E j = 15) := fun h9 => c_55 ((eq_nI (p := tg f E j) (n := 15) (Nat.lt_trans (tg_lt _ _ _) (by decide)) (by decide)).mpr h9)
    refine ps_st (S' := (86, [(3, .int (nI (tg f E j))), (0, .ref m0), (1, .int (nI j)), (2, .int 1)], [.int (nI (tg f E j))], M1)) rfl rfl rfl ?_
    refine ps_st (S' := (88, [(3, .int (nI (tg f E j))), (0, .ref m0), (1, .int (nI j)), (2, .int 1)], [.int 7, .int (nI (tg f E j))], M1)) rfl rfl rfl ?_
    refine ps_if2 (S1 := (115, [(0, .ref m0), (1, .int (nI j)), (2, .int 1)], [], M1)) (S2 := (91, [(3, .int (nI (tg f E j))), (0, .ref m0), (1, .int (nI j)), (2, .int 1)], [], M1)) rfl rfl rfl (fun c_88 => ?_) (fun c_88 => ?_)
    · have c_88 : (nI (tg f E j)) = 7 := of_decide_eq_true c_88
      have n_88 : tg f E j = 7 := (eq_nI (p := tg f E j) (n := 7) (Nat.lt_trans (tg_lt _ _ _) (by decide)) (by decide)).mp c_88
      refine ps_st (S' := (116, [(0, .ref m0), (1, .int (nI j)), (2, .int 1)], [.int 1], M1)) rfl rfl rfl ?_
      refine ps_st (S' := (117, [(0, .ref m0), (1, .int (nI j)), (2, .int 1)], [.int 1, .int 1], M1)) rfl rfl rfl ?_
      refine ps_if2 (S1 := (129, [(0, .ref m0), (1, .int (nI j)), (2, .int 1)], [], M1)) (S2 := (120, [(0, .ref m0), (1, .int (nI j)), (2, .int 1)], [], M1)) rfl rfl rfl (fun c_117 => ?_) (fun c_117 => ?_)
      · exact absurd (of_decide_eq_true c_117) (by decide)
      refine ps_st (S' := (121, [(0, .ref m0), (1, .int (nI j)), (2, .int 1)], [.ref m0], M1)) rfl rfl rfl ?_
      refine ps_st (S' := (122, [(0, .ref m0), (1, .int (nI j)), (2, .int 1)], [.int (nI j), .ref m0], M1)) rfl rfl rfl ?_
      refine ps_st (S' := (123, [(0, .ref m0), (1, .int (nI j)), (2, .int 1)], [.int 1, .int (nI j), .ref m0], M1)) rfl rfl rfl ?_
      refine pl_call (a := [.ref m0, .int (nI j), .int 1]) (rest := []) rfl rfl rfl (rd_idx1 (n := n) (f := f) (tx := tx) (cN := cN) (A := A) (N := N) (mj := mj) (E := E) (k := j) hR3 hi7 hi8 hi9 hF_10 hY_11 hP_12 (hEP) (hN) (hmj) (by omega)) (fun v17 M18 q19 => ?_)
      obtain ⟨rfl, rfl⟩ := q19
      show pl _ _ _ (126, [(0, .ref m0), (1, .int (nI j)), (2, .int 1)], [.int (nI (fi f E j))], M1) _
      have hix_123 := fi_lt f E j
      refine ps_st (S' := (130, [], [.int (nI (fi f E j))], M1)) rfl rfl rfl ?_
      exact ps_reti rfl (⟨I2, R, rfl, hR3, hEI13, hER, hi4⟩)
    · have c_88 : ¬ ((nI (tg f E j)) = 7) := of_decide_eq_false c_88
      have n_88 : ¬ (tg f E j = 7) := fun h9 => c_88 ((eq_nI (p := tg f E j) (n := 7) (Nat.lt_trans (tg_lt _ _ _) (by decide)) (by decide)).mpr h9)
      refine ps_st (S' := (92, [(3, .int (nI (tg f E j))), (0, .ref m0), (1, .int (nI j)), (2, .int 1)], [.int (nI (tg f E j))], M1)) rfl rfl rfl ?_
      refine ps_st (S' := (94, [(3, .int (nI (tg f E j))), (0, .ref m0), (1, .int (nI j)), (2, .int 1)], [.int 8, .int (nI (tg f E j))], M1)) rfl rfl rfl ?_
      refine ps_if2 (S1 := (115, [(0, .ref m0), (1, .int (nI j)), (2, .int 1)], [], M1)) (S2 := (97, [(3, .int (nI (tg f E j))), (0, .ref m0), (1, .int (nI j)), (2, .int 1)], [], M1)) rfl rfl rfl (fun c_94 => ?_) (fun c_94 => ?_)
      · have c_94 : (nI (tg f E j)) = 8 := of_decide_eq_true c_94
        have n_94 : tg f E j = 8 := (eq_nI (p := tg f E j) (n := 8) (Nat.lt_trans (tg_lt _ _ _) (by decide)) (by decide)).mp c_94
        refine ps_st (S' := (116, [(0, .ref m0), (1, .int (nI j)), (2, .int 1)], [.int 1], M1)) rfl rfl rfl ?_
        refine ps_st (S' := (117, [(0, .ref m0), (1, .int (nI j)), (2, .int 1)], [.int 1, .int 1], M1)) rfl rfl rfl ?_
        refine ps_if2 (S1 := (129, [(0, .ref m0), (1, .int (nI j)), (2, .int 1)], [], M1)) (S2 := (120, [(0, .ref m0), (1, .int (nI j)), (2, .int 1)], [], M1)) rfl rfl rfl (fun c_117 => ?_) (fun c_117 => ?_)
        · exact absurd (of_decide_eq_true c_117) (by decide)
        refine ps_st (S' := (121, [(0, .ref m0), (1, .int (nI j)), (2, .int 1)], [.ref m0], M1)) rfl rfl rfl ?_
        refine ps_st (S' := (122, [(0, .ref m0), (1, .int (nI j)), (2, .int 1)], [.int (nI j), .ref m0], M1)) rfl rfl rfl ?_
        refine ps_st (S' := (123, [(0, .ref m0), (1, .int (nI j)), (2, .int 1)], [.int 1, .int (nI j), .ref m0], M1)) rfl rfl rfl ?_
        refine pl_call (a := [.ref m0, .int (nI j), .int 1]) (rest := []) rfl rfl rfl (rd_idx1 (n := n) (f := f) (tx := tx) (cN := cN) (A := A) (N := N) (mj := mj) (E := E) (k := j) hR3 hi7 hi8 hi9 hF_10 hY_11 hP_12 (hEP) (hN) (hmj) (by omega)) (fun v20 M21 q22 => ?_)
        obtain ⟨rfl, rfl⟩ := q22
        show pl _ _ _ (126, [(0, .ref m0), (1, .int (nI j)), (2, .int 1)], [.int (nI (fi f E j))], M1) _
        have hix_123 := fi_lt f E j
        refine ps_st (S' := (130, [], [.int (nI (fi f E j))], M1)) rfl rfl rfl ?_
        exact ps_reti rfl (⟨I2, R, rfl, hR3, hEI13, hER, hi4⟩)
      · have c_94 : ¬ ((nI (tg f E j)) = 8) := of_decide_eq_false c_94
        have n_94 : ¬ (tg f E j = 8) := fun h9 => c_94 ((eq_nI (p := tg f E j) (n := 8) (Nat.lt_trans (tg_lt _ _ _) (by decide)) (by decide)).mpr h9)
        refine ps_st (S' := (98, [(3, .int (nI (tg f E j))), (0, .ref m0), (1, .int (nI j)), (2, .int 1)], [.int (nI (tg f E j))], M1)) rfl rfl rfl ?_
        refine ps_st (S' := (100, [(3, .int (nI (tg f E j))), (0, .ref m0), (1, .int (nI j)), (2, .int 1)], [.int 16, .int (nI (tg f E j))], M1)) rfl rfl rfl ?_
        refine ps_if2 (S1 := (115, [(0, .ref m0), (1, .int (nI j)), (2, .int 1)], [], M1)) (S2 := (103, [(3, .int (nI (tg f E j))), (0, .ref m0), (1, .int (nI j)), (2, .int 1)], [], M1)) rfl rfl rfl (fun c_100 => ?_) (fun c_100 => ?_)
        · have c_100 : (nI (tg f E j)) = 16 := of_decide_eq_true c_100
          have n_100 : tg f E j = 16 := (eq_nI (p := tg f E j) (n := 16) (Nat.lt_trans (tg_lt _ _ _) (by decide)) (by decide)).mp c_100
          refine ps_st (S' := (116, [(0, .ref m0), (1, .int (nI j)), (2, .int 1)], [.int 1], M1)) rfl rfl rfl ?_
          refine ps_st (S' := (117, [(0, .ref m0), (1, .int (nI j)), (2, .int 1)], [.int 1, .int 1], M1)) rfl rfl rfl ?_
          refine ps_if2 (S1 := (129, [(0, .ref m0), (1, .int (nI j)), (2, .int 1)], [], M1)) (S2 := (120, [(0, .ref m0), (1, .int (nI j)), (2, .int 1)], [], M1)) rfl rfl rfl (fun c_117 => ?_) (fun c_117 => ?_)
          · exact absurd (of_decide_eq_true c_117) (by decide)
          refine ps_st (S' := (121, [(0, .ref m0), (1, .int (nI j)), (2, .int 1)], [.ref m0], M1)) rfl rfl rfl ?_
          refine ps_st (S' := (122, [(0, .ref m0), (1, .int (nI j)), (2, .int 1)], [.int (nI j), .ref m0], M1)) rfl rfl rfl ?_
          refine ps_st (S' := (123, [(0, .ref m0), (1, .int (nI j)), (2, .int 1)], [.int 1, .int (nI j), .ref m0], M1)) rfl rfl rfl ?_
          refine pl_call (a := [.ref m0, .int (nI j), .int 1]) (rest := []) rfl rfl rfl (rd_idx1 (n := n) (f := f) (tx := tx) (cN := cN) (A := A) (N := N) (mj := mj) (E := E) (k := j) hR3 hi7 hi8 hi9 hF_10 hY_11 hP_12 (hEP) (hN) (hmj) (by omega)) (fun v23 M24 q25 => ?_)
          obtain ⟨rfl, rfl⟩ := q25
          show pl _ _ _ (126, [(0, .ref m0), (1, .int (nI j)), (2, .int 1)], [.int (nI (fi f E j))], M1) _
          have hix_123 := fi_lt f E j
          refine ps_st (S' := (130, [], [.int (nI (fi f E j))], M1)) rfl rfl rfl ?_
          exact ps_reti rfl (⟨I2, R, rfl, hR3, hEI13, hER, hi4⟩)
        · have c_100 : ¬ ((nI (tg f E j)) = 16) := of_decide_eq_false c_100
          have n_100 : ¬ (tg f E j = 16) := fun h9 => c_100 ((eq_nI (p := tg f E j) (n := 16) (Nat.lt_trans (tg_lt _ _ _) (by decide)) (by decide)).mpr h9)
          refine ps_st (S' := (104, [(3, .int (nI (tg f E j))), (0, .ref m0), (1, .int (nI j)), (2, .int 1)], [.int (nI (tg f E j))], M1)) rfl rfl rfl ?_
          refine ps_st (S' := (106, [(3, .int (nI (tg f E j))), (0, .ref m0), (1, .int (nI j)), (2, .int 1)], [.int 19, .int (nI (tg f E j))], M1)) rfl rfl rfl ?_
          refine ps_if2 (S1 := (115, [(0, .ref m0), (1, .int (nI j)), (2, .int 1)], [], M1)) (S2 := (109, [(3, .int (nI (tg f E j))), (0, .ref m0), (1, .int (nI j)), (2, .int 1)], [], M1)) rfl rfl rfl (fun c_106 => ?_) (fun c_106 => ?_)
          · have c_106 : (nI (tg f E j)) = 19 := of_decide_eq_true c_106
            have n_106 : tg f E j = 19 := (eq_nI (p := tg f E j) (n := 19) (Nat.lt_trans (tg_lt _ _ _) (by decide)) (by decide)).mp c_106
            refine ps_st (S' := (116, [(0, .ref m0), (1, .int (nI j)), (2, .int 1)], [.int 1], M1)) rfl rfl rfl ?_
            refine ps_st (S' := (117, [(0, .ref m0), (1, .int (nI j)), (2, .int 1)], [.int 1, .int 1], M1)) rfl rfl rfl ?_
            refine ps_if2 (S1 := (129, [(0, .ref m0), (1, .int (nI j)), (2, .int 1)], [], M1)) (S2 := (120, [(0, .ref m0), (1, .int (nI j)), (2, .int 1)], [], M1)) rfl rfl rfl (fun c_117 => ?_) (fun c_117 => ?_)
            · exact absurd (of_decide_eq_true c_117) (by decide)
            refine ps_st (S' := (121, [(0, .ref m0), (1, .int (nI j)), (2, .int 1)], [.ref m0], M1)) rfl rfl rfl ?_
            refine ps_st (S' := (122, [(0, .ref m0), (1, .int (nI j)), (2, .int 1)], [.int (nI j), .ref m0], M1)) rfl rfl rfl ?_
            refine ps_st (S' := (123, [(0, .ref m0), (1, .int (nI j)), (2, .int 1)], [.int 1, .int (nI j), .ref m0], M1)) rfl rfl rfl ?_
            refine pl_call (a := [.ref m0, .int (nI j), .int 1]) (rest := []) rfl rfl rfl (rd_idx1 (n := n) (f := f) (tx := tx) (cN := cN) (A := A) (N := N) (mj := mj) (E := E) (k := j) hR3 hi7 hi8 hi9 hF_10 hY_11 hP_12 (hEP) (hN) (hmj) (by omega)) (fun v26 M27 q28 => ?_)
            obtain ⟨rfl, rfl⟩ := q28
            show pl _ _ _ (126, [(0, .ref m0), (1, .int (nI j)), (2, .int 1)], [.int (nI (fi f E j))], M1) _
            have hix_123 := fi_lt f E j
            refine ps_st (S' := (130, [], [.int (nI (fi f E j))], M1)) rfl rfl rfl ?_
            exact ps_reti rfl (⟨I2, R, rfl, hR3, hEI13, hER, hi4⟩)
          · have c_106 : ¬ ((nI (tg f E j)) = 19) := of_decide_eq_false c_106
            have n_106 : ¬ (tg f E j = 19) := fun h9 => c_106 ((eq_nI (p := tg f E j) (n := 19) (Nat.lt_trans (tg_lt _ _ _) (by decide)) (by decide)).mpr h9)
            refine ps_st (S' := (110, [(3, .int (nI (tg f E j))), (0, .ref m0), (1, .int (nI j)), (2, .int 1)], [.int (nI (tg f E j))], M1)) rfl rfl rfl ?_
            refine ps_st (S' := (112, [(3, .int (nI (tg f E j))), (0, .ref m0), (1, .int (nI j)), (2, .int 1)], [.int 20, .int (nI (tg f E j))], M1)) rfl rfl rfl ?_
            refine ps_if2 (S1 := (131, [(3, .int (nI (tg f E j))), (0, .ref m0), (1, .int (nI j)), (2, .int 1)], [], M1)) (S2 := (115, [(0, .ref m0), (1, .int (nI j)), (2, .int 1)], [], M1)) rfl rfl rfl (fun c_112 => ?_) (fun c_112 => ?_)
            · have c_112 : ¬ (nI (tg f E j)) = 20 := of_decide_eq_true c_112
              have n_112 : ¬ (tg f E j = 20) := fun h9 => c_112 ((eq_nI (p := tg f E j) (n := 20) (Nat.lt_trans (tg_lt _ _ _) (by decide)) (by decide)).mpr h9)
              refine ps_st (S' := (132, [(3, .int (nI (tg f E j))), (0, .ref m0), (1, .int (nI j)), (2, .int 1)], [.int (nI (tg f E j))], M1)) rfl rfl rfl ?_
              refine ps_st (S' := (134, [(3, .int (nI (tg f E j))), (0, .ref m0), (1, .int (nI j)), (2, .int 1)], [.int 9, .int (nI (tg f E j))], M1)) rfl rfl rfl ?_
              refine ps_if2 (S1 := (143, [(0, .ref m0), (1, .int (nI j)), (2, .int 1), (3, .int (nI (tg f E j)))], [], M1)) (S2 := (137, [(3, .int (nI (tg f E j))), (0, .ref m0), (1, .int (nI j)), (2, .int 1)], [], M1)) rfl rfl rfl (fun c_134 => ?_) (fun c_134 => ?_)
              · have c_134 : (nI (tg f E j)) < 9 := of_decide_eq_true c_134
                have n_134 : tg f E j < 9 := (lt_nI (p := tg f E j) (n := 9) (Nat.lt_trans (tg_lt _ _ _) (by decide)) (by decide)).mp c_134
                refine ps_st (S' := (144, [(0, .ref m0), (1, .int (nI j)), (2, .int 1), (3, .int (nI (tg f E j)))], [.int (nI (tg f E j))], M1)) rfl rfl rfl ?_
                refine ps_st (S' := (146, [(0, .ref m0), (1, .int (nI j)), (2, .int 1), (3, .int (nI (tg f E j)))], [.int 17, .int (nI (tg f E j))], M1)) rfl rfl rfl ?_
                refine ps_if2 (S1 := (155, [(0, .ref m0), (1, .int (nI j)), (2, .int 1)], [], M1)) (S2 := (149, [(0, .ref m0), (1, .int (nI j)), (2, .int 1), (3, .int (nI (tg f E j)))], [], M1)) rfl rfl rfl (fun c_146 => ?_) (fun c_146 => ?_)
                · exact absurd (of_decide_eq_true c_146) (show ¬ ((nI (tg f E j)) = 17) from fun h9 => absurd ((eq_nI (p := tg f E j) (n := 17) (Nat.lt_trans (tg_lt _ _ _) (by decide)) (by decide)).mp h9) (by omega))
                refine ps_st (S' := (150, [(0, .ref m0), (1, .int (nI j)), (2, .int 1), (3, .int (nI (tg f E j)))], [.int (nI (tg f E j))], M1)) rfl rfl rfl ?_
                refine ps_st (S' := (152, [(0, .ref m0), (1, .int (nI j)), (2, .int 1), (3, .int (nI (tg f E j)))], [.int 18, .int (nI (tg f E j))], M1)) rfl rfl rfl ?_
                refine ps_if2 (S1 := (171, [(0, .ref m0), (1, .int (nI j)), (2, .int 1), (3, .int (nI (tg f E j)))], [], M1)) (S2 := (155, [(0, .ref m0), (1, .int (nI j)), (2, .int 1)], [], M1)) rfl rfl rfl (fun c_152 => ?_) (fun c_152 => ?_)
                rotate_left
                · exact absurd (show ¬ ((nI (tg f E j)) = 18) from fun h9 => absurd ((eq_nI (p := tg f E j) (n := 18) (Nat.lt_trans (tg_lt _ _ _) (by decide)) (by decide)).mp h9) (by omega)) (of_decide_eq_false c_152)
                refine ps_st (S' := (172, [(0, .ref m0), (1, .int (nI j)), (2, .int 1), (3, .int (nI (tg f E j)))], [.int 0], M1)) rfl rfl rfl ?_
                exact ps_ret rfl rfl (⟨I2, R, by rw [(ix_7 (by omega)).1]; rfl, hR3, hEI13, hER, hi4⟩)
              · have c_134 : ¬ ((nI (tg f E j)) < 9) := of_decide_eq_false c_134
                have n_134 : ¬ (tg f E j < 9) := fun h9 => c_134 ((lt_nI (p := tg f E j) (n := 9) (Nat.lt_trans (tg_lt _ _ _) (by decide)) (by decide)).mpr h9)
                refine ps_st (S' := (138, [(3, .int (nI (tg f E j))), (0, .ref m0), (1, .int (nI j)), (2, .int 1)], [.int (nI (tg f E j))], M1)) rfl rfl rfl ?_
                refine ps_st (S' := (140, [(3, .int (nI (tg f E j))), (0, .ref m0), (1, .int (nI j)), (2, .int 1)], [.int 12, .int (nI (tg f E j))], M1)) rfl rfl rfl ?_
                refine ps_if2 (S1 := (155, [(0, .ref m0), (1, .int (nI j)), (2, .int 1)], [], M1)) (S2 := (143, [(0, .ref m0), (1, .int (nI j)), (2, .int 1), (3, .int (nI (tg f E j)))], [], M1)) rfl rfl rfl (fun c_140 => ?_) (fun c_140 => ?_)
                · have c_140 : (nI (tg f E j)) ≤ 12 := of_decide_eq_true c_140
                  have n_140 : tg f E j ≤ 12 := (le_nI (p := tg f E j) (n := 12) (Nat.lt_trans (tg_lt _ _ _) (by decide)) (by decide)).mp c_140
                  refine ps_st (S' := (156, [(0, .ref m0), (1, .int (nI j)), (2, .int 1)], [.ref m0], M1)) rfl rfl rfl ?_
                  refine ps_st (S' := (157, [(0, .ref m0), (1, .int (nI j)), (2, .int 1)], [.int (nI j), .ref m0], M1)) rfl rfl rfl ?_
                  refine ps_st (S' := (158, [(0, .ref m0), (1, .int (nI j)), (2, .int 1)], [.int 1, .int (nI j), .ref m0], M1)) rfl rfl rfl ?_
                  refine ps_st (S' := (159, [(0, .ref m0), (1, .int (nI j)), (2, .int 1)], [.int 1, .int 1, .int (nI j), .ref m0], M1)) rfl rfl rfl ?_
                  refine ps_if2 (S1 := (166, [(0, .ref m0), (1, .int (nI j)), (2, .int 1)], [.int (nI j), .ref m0], M1)) (S2 := (162, [(0, .ref m0), (1, .int (nI j)), (2, .int 1)], [.int (nI j), .ref m0], M1)) rfl rfl rfl (fun c_159 => ?_) (fun c_159 => ?_)
                  · exact absurd (of_decide_eq_true c_159) (by decide)
                  refine ps_st (S' := (163, [(0, .ref m0), (1, .int (nI j)), (2, .int 1)], [.int 1, .int (nI j), .ref m0], M1)) rfl rfl rfl ?_
                  refine ps_st (S' := (167, [], [.int 1, .int (nI j), .ref m0], M1)) rfl rfl rfl ?_
                  refine pl_call (a := [.ref m0, .int (nI j), .int 1]) (rest := []) rfl rfl rfl (rd_idx1 (n := n) (f := f) (tx := tx) (cN := cN) (A := A) (N := N) (mj := mj) (E := E) (k := j) hR3 hi7 hi8 hi9 hF_10 hY_11 hP_12 (hEP) (hN) (hmj) (by omega)) (fun v29 M30 q31 => ?_)
                  obtain ⟨rfl, rfl⟩ := q31
                  show pl _ _ _ (170, [], [.int (nI (fi f E j))], M1) _
                  have hix_167 := fi_lt f E j
                  exact ps_reti rfl (⟨I2, R, rfl, hR3, hEI13, hER, hi4⟩)
                · have c_140 : ¬ ((nI (tg f E j)) ≤ 12) := of_decide_eq_false c_140
                  have n_140 : ¬ (tg f E j ≤ 12) := fun h9 => c_140 ((le_nI (p := tg f E j) (n := 12) (Nat.lt_trans (tg_lt _ _ _) (by decide)) (by decide)).mpr h9)
                  refine ps_st (S' := (144, [(0, .ref m0), (1, .int (nI j)), (2, .int 1), (3, .int (nI (tg f E j)))], [.int (nI (tg f E j))], M1)) rfl rfl rfl ?_
                  refine ps_st (S' := (146, [(0, .ref m0), (1, .int (nI j)), (2, .int 1), (3, .int (nI (tg f E j)))], [.int 17, .int (nI (tg f E j))], M1)) rfl rfl rfl ?_
                  refine ps_if2 (S1 := (155, [(0, .ref m0), (1, .int (nI j)), (2, .int 1)], [], M1)) (S2 := (149, [(0, .ref m0), (1, .int (nI j)), (2, .int 1), (3, .int (nI (tg f E j)))], [], M1)) rfl rfl rfl (fun c_146 => ?_) (fun c_146 => ?_)
                  · have c_146 : (nI (tg f E j)) = 17 := of_decide_eq_true c_146
                    have n_146 : tg f E j = 17 := (eq_nI (p := tg f E j) (n := 17) (Nat.lt_trans (tg_lt _ _ _) (by decide)) (by decide)).mp c_146
                    refine ps_st (S' := (156, [(0, .ref m0), (1, .int (nI j)), (2, .int 1)], [.ref m0], M1)) rfl rfl rfl ?_
                    refine ps_st (S' := (157, [(0, .ref m0), (1, .int (nI j)), (2, .int 1)], [.int (nI j), .ref m0], M1)) rfl rfl rfl ?_
                    refine ps_st (S' := (158, [(0, .ref m0), (1, .int (nI j)), (2, .int 1)], [.int 1, .int (nI j), .ref m0], M1)) rfl rfl rfl ?_
                    refine ps_st (S' := (159, [(0, .ref m0), (1, .int (nI j)), (2, .int 1)], [.int 1, .int 1, .int (nI j), .ref m0], M1)) rfl rfl rfl ?_
                    refine ps_if2 (S1 := (166, [(0, .ref m0), (1, .int (nI j)), (2, .int 1)], [.int (nI j), .ref m0], M1)) (S2 := (162, [(0, .ref m0), (1, .int (nI j)), (2, .int 1)], [.int (nI j), .ref m0], M1)) rfl rfl rfl (fun c_159 => ?_) (fun c_159 => ?_)
                    · exact absurd (of_decide_eq_true c_159) (by decide)
                    refine ps_st (S' := (163, [(0, .ref m0), (1, .int (nI j)), (2, .int 1)], [.int 1, .int (nI j), .ref m0], M1)) rfl rfl rfl ?_
                    refine ps_st (S' := (167, [], [.int 1, .int (nI j), .ref m0], M1)) rfl rfl rfl ?_
                    refine pl_call (a := [.ref m0, .int (nI j), .int 1]) (rest := []) rfl rfl rfl (rd_idx1 (n := n) (f := f) (tx := tx) (cN := cN) (A := A) (N := N) (mj := mj) (E := E) (k := j) hR3 hi7 hi8 hi9 hF_10 hY_11 hP_12 (hEP) (hN) (hmj) (by omega)) (fun v32 M33 q34 => ?_)
                    obtain ⟨rfl, rfl⟩ := q34
                    show pl _ _ _ (170, [], [.int (nI (fi f E j))], M1) _
                    have hix_167 := fi_lt f E j
                    exact ps_reti rfl (⟨I2, R, rfl, hR3, hEI13, hER, hi4⟩)
                  · have c_146 : ¬ ((nI (tg f E j)) = 17) := of_decide_eq_false c_146
                    have n_146 : ¬ (tg f E j = 17) := fun h9 => c_146 ((eq_nI (p := tg f E j) (n := 17) (Nat.lt_trans (tg_lt _ _ _) (by decide)) (by decide)).mpr h9)
                    refine ps_st (S' := (150, [(0, .ref m0), (1, .int (nI j)), (2, .int 1), (3, .int (nI (tg f E j)))], [.int (nI (tg f E j))], M1)) rfl rfl rfl ?_
                    refine ps_st (S' := (152, [(0, .ref m0), (1, .int (nI j)), (2, .int 1), (3, .int (nI (tg f E j)))], [.int 18, .int (nI (tg f E j))], M1)) rfl rfl rfl ?_
                    refine ps_if2 (S1 := (171, [(0, .ref m0), (1, .int (nI j)), (2, .int 1), (3, .int (nI (tg f E j)))], [], M1)) (S2 := (155, [(0, .ref m0), (1, .int (nI j)), (2, .int 1)], [], M1)) rfl rfl rfl (fun c_152 => ?_) (fun c_152 => ?_)
                    · have c_152 : ¬ (nI (tg f E j)) = 18 := of_decide_eq_true c_152
                      have n_152 : ¬ (tg f E j = 18) := fun h9 => c_152 ((eq_nI (p := tg f E j) (n := 18) (Nat.lt_trans (tg_lt _ _ _) (by decide)) (by decide)).mpr h9)
                      refine ps_st (S' := (172, [(0, .ref m0), (1, .int (nI j)), (2, .int 1), (3, .int (nI (tg f E j)))], [.int 0], M1)) rfl rfl rfl ?_
                      exact ps_ret rfl rfl (⟨I2, R, by rw [(ix_7 (by omega)).1]; rfl, hR3, hEI13, hER, hi4⟩)
                    · have c_152 : ¬ (¬ (nI (tg f E j)) = 18) := of_decide_eq_false c_152
                      have n_152 : tg f E j = 18 := (eq_nI (p := tg f E j) (n := 18) (Nat.lt_trans (tg_lt _ _ _) (by decide)) (by decide)).mp (Decidable.not_not.mp c_152)
                      refine ps_st (S' := (156, [(0, .ref m0), (1, .int (nI j)), (2, .int 1)], [.ref m0], M1)) rfl rfl rfl ?_
                      refine ps_st (S' := (157, [(0, .ref m0), (1, .int (nI j)), (2, .int 1)], [.int (nI j), .ref m0], M1)) rfl rfl rfl ?_
                      refine ps_st (S' := (158, [(0, .ref m0), (1, .int (nI j)), (2, .int 1)], [.int 1, .int (nI j), .ref m0], M1)) rfl rfl rfl ?_
                      refine ps_st (S' := (159, [(0, .ref m0), (1, .int (nI j)), (2, .int 1)], [.int 1, .int 1, .int (nI j), .ref m0], M1)) rfl rfl rfl ?_
                      refine ps_if2 (S1 := (166, [(0, .ref m0), (1, .int (nI j)), (2, .int 1)], [.int (nI j), .ref m0], M1)) (S2 := (162, [(0, .ref m0), (1, .int (nI j)), (2, .int 1)], [.int (nI j), .ref m0], M1)) rfl rfl rfl (fun c_159 => ?_) (fun c_159 => ?_)
                      · exact absurd (of_decide_eq_true c_159) (by decide)
                      refine ps_st (S' := (163, [(0, .ref m0), (1, .int (nI j)), (2, .int 1)], [.int 1, .int (nI j), .ref m0], M1)) rfl rfl rfl ?_
                      refine ps_st (S' := (167, [], [.int 1, .int (nI j), .ref m0], M1)) rfl rfl rfl ?_
                      refine pl_call (a := [.ref m0, .int (nI j), .int 1]) (rest := []) rfl rfl rfl (rd_idx1 (n := n) (f := f) (tx := tx) (cN := cN) (A := A) (N := N) (mj := mj) (E := E) (k := j) hR3 hi7 hi8 hi9 hF_10 hY_11 hP_12 (hEP) (hN) (hmj) (by omega)) (fun v35 M36 q37 => ?_)
                      obtain ⟨rfl, rfl⟩ := q37
                      show pl _ _ _ (170, [], [.int (nI (fi f E j))], M1) _
                      have hix_167 := fi_lt f E j
                      exact ps_reti rfl (⟨I2, R, rfl, hR3, hEI13, hER, hi4⟩)
            · have c_112 : ¬ (¬ (nI (tg f E j)) = 20) := of_decide_eq_false c_112
              have n_112 : tg f E j = 20 := (eq_nI (p := tg f E j) (n := 20) (Nat.lt_trans (tg_lt _ _ _) (by decide)) (by decide)).mp (Decidable.not_not.mp c_112)
              refine ps_st (S' := (116, [(0, .ref m0), (1, .int (nI j)), (2, .int 1)], [.int 1], M1)) rfl rfl rfl ?_
              refine ps_st (S' := (117, [(0, .ref m0), (1, .int (nI j)), (2, .int 1)], [.int 1, .int 1], M1)) rfl rfl rfl ?_
              refine ps_if2 (S1 := (129, [(0, .ref m0), (1, .int (nI j)), (2, .int 1)], [], M1)) (S2 := (120, [(0, .ref m0), (1, .int (nI j)), (2, .int 1)], [], M1)) rfl rfl rfl (fun c_117 => ?_) (fun c_117 => ?_)
              · exact absurd (of_decide_eq_true c_117) (by decide)
              refine ps_st (S' := (121, [(0, .ref m0), (1, .int (nI j)), (2, .int 1)], [.ref m0], M1)) rfl rfl rfl ?_
              refine ps_st (S' := (122, [(0, .ref m0), (1, .int (nI j)), (2, .int 1)], [.int (nI j), .ref m0], M1)) rfl rfl rfl ?_
              refine ps_st (S' := (123, [(0, .ref m0), (1, .int (nI j)), (2, .int 1)], [.int 1, .int (nI j), .ref m0], M1)) rfl rfl rfl ?_
              refine pl_call (a := [.ref m0, .int (nI j), .int 1]) (rest := []) rfl rfl rfl (rd_idx1 (n := n) (f := f) (tx := tx) (cN := cN) (A := A) (N := N) (mj := mj) (E := E) (k := j) hR3 hi7 hi8 hi9 hF_10 hY_11 hP_12 (hEP) (hN) (hmj) (by omega)) (fun v38 M39 q40 => ?_)
              obtain ⟨rfl, rfl⟩ := q40
              show pl _ _ _ (126, [(0, .ref m0), (1, .int (nI j)), (2, .int 1)], [.int (nI (fi f E j))], M1) _
              have hix_123 := fi_lt f E j
              refine ps_st (S' := (130, [], [.int (nI (fi f E j))], M1)) rfl rfl rfl ?_
              exact ps_reti rfl (⟨I2, R, rfl, hR3, hEI13, hER, hi4⟩)
  · have c_55 : ¬ (¬ (nI (tg f E j)) = 15) := of_decide_eq_false c_55
    have n_55 : tg f E j = 15 := (eq_nI (p := tg f E j) (n := 15) (Nat.lt_trans (tg_lt _ _ _) (by decide)) (by decide)).mp (Decidable.not_not.mp c_55)
    refine ps_st (S' := (59, [(3, .int (nI (tg f E j))), (0, .ref m0), (1, .int (nI j)), (2, .int 1)], [.int 1], M1)) rfl rfl rfl ?_
    refine ps_st (S' := (60, [(3, .int (nI (tg f E j))), (0, .ref m0), (1, .int (nI j)), (2, .int 1)], [.int 1, .int 1], M1)) rfl rfl rfl ?_
    refine ps_if2 (S1 := (78, [(3, .int (nI (tg f E j))), (0, .ref m0), (1, .int (nI j)), (2, .int 1)], [], M1)) (S2 := (63, [(3, .int (nI (tg f E j))), (0, .ref m0), (1, .int (nI j)), (2, .int 1)], [], M1)) rfl rfl rfl (fun c_60 => ?_) (fun c_60 => ?_)
    · exact absurd (of_decide_eq_true c_60) (by decide)
    obtain ⟨p, hk9, hb9⟩ := tg_lk (f := f) (E := E) (k := j) (by omega)
    have ha9 := hP_12.at hk9
    have hep9 := hEP j p hk9
    refine ps_st (S' := (64, [(3, .int (nI (tg f E j))), (0, .ref m0), (1, .int (nI j)), (2, .int 1)], [.ref m0], M1)) rfl rfl rfl ?_
    refine ps_st (S' := (65, [(3, .int (nI (tg f E j))), (0, .ref m0), (1, .int (nI j)), (2, .int 1)], [.ref m0, .ref m0], M1)) rfl rfl rfl ?_
    refine pr_ref (j := 21) (S' := (68, [(3, .int (nI (tg f E j))), (0, .ref m0), (1, .int (nI j)), (2, .int 1)], [.ref (q 21), .ref m0], M1)) rfl hR3 rfl rfl ?_
    refine ps_st (S' := (69, [(3, .int (nI (tg f E j))), (0, .ref m0), (1, .int (nI j)), (2, .int 1)], [.int (nI j), .ref (q 21), .ref m0], M1)) rfl rfl rfl ?_
    refine pr_ld (a := 21) (j := j) (y := (nI p)) (S' := (70, [(3, .int (nI (tg f E j))), (0, .ref m0), (1, .int (nI j)), (2, .int 1)], [.int (nI p), .ref m0], M1)) rfl hR3 rfl (by omega) (fun _ => ha9.2.2) rfl (fun i1_69 => ?_)
    refine ps_st (S' := (71, [(3, .int (nI (tg f E j))), (0, .ref m0), (1, .int (nI j)), (2, .int 1)], [.int 1, .int (nI p), .ref m0], M1)) rfl rfl rfl ?_
    refine ps_st (S' := (72, [(3, .int (nI (tg f E j))), (0, .ref m0), (1, .int (nI j)), (2, .int 1)], [.int ((nI p) + 1), .ref m0], M1)) rfl rfl rfl ?_
    rw [nI_add1 (p := p) (k := 1) (x := 1) rfl (by omega)]
    show pl _ _ _ (_, [(3, .int (nI (tg f E j))), (0, .ref m0), (1, .int (nI j)), (2, .int 1)], [.int (nI (p + 1)), .ref m0], M1) _
    refine pl_call (a := [.ref m0, .int (nI (p + 1))]) (rest := []) rfl rfl rfl (rd_u1 (n := n) (f := f) (p := (p + 1)) hR3 hF_10 (by omega)) (fun v41 M42 q43 => ?_)
    obtain ⟨rfl, rfl⟩ := q43
    show pl _ _ _ (75, [(3, .int (nI (tg f E j))), (0, .ref m0), (1, .int (nI j)), (2, .int 1)], [.int (nI (by1 f (p + 1)))], M1) _
    have hu_72 := by1_lt f (p + 1)
    refine ps_st (S' := (84, [], [.int (nI (by1 f (p + 1)))], M1)) rfl rfl rfl ?_
    exact ps_reti rfl (⟨I2, R, by rw [fi_15 hk9 (by omega)], hR3, hEI13, hER, hi4⟩)
set_option maxHeartbeats 1000000 in
theorem rd_entry_2 {g : xe_G} {m0 : Nat} {q : Nat → Nat} {z : Nat × Nat} {I : rI} {R : rR} {M : mi_H} {n : Nat} {f : Nat → Int32} {tx : List (List Nat)} {cN : Nat} {A : Nat → Nat} {N mj : Nat} {E : List (Nat × Nat)} {j n2 p1 : Nat} (hR : RS g m0 q z I R M) (hi18 : I 18 = some (nI n2)) (hi51 : I 51 = some 0) (hi52 : I 52 = some (nI N)) (hi53 : I 53 = some (nI mj)) (hF : FK n f I R) (hY : SYT tx cN A I R) (hP : RPV f n E tx N I R) (hEP : EP f n E) (hN : N < 65536) (hmj : mj < 65536) (hn2 : n2 ≤ 65540) (hj : j < N) (hpl : s_pool f n mj = .inr (p1, E)) : pt (mT g) 204 [.ref m0, .int (nI j), .int 2] M (fun v M' => (∃  (I' : rI) (R' : rR), v = some (.int (nI (se f E j))) ∧ RS g m0 q z I' R' M' ∧ eqI [0] I I' ∧ eqR [] R R' ∧ I' 0 = some 0)) := by
  refine pt_in (b := mb_204 g) rfl (fun kf => ?_)
  show pl (mT g) kf (mb_204 g).2 (0, [(0, .ref m0), (1, .int (nI j)), (2, .int 2)], [], M) _
  have hEI : eqI [0] I I := eqI.rf
  have hER : eqR [] R R := eqR.rf
  have hn := hF.1
  have hto := tg_ok (k := j) hpl
  unfold tgOk at hto
  have htl9 := tg_lt f E j
  refine ps_st (S' := (1, [(0, .ref m0), (1, .int (nI j)), (2, .int 2)], [.ref m0], M)) rfl rfl rfl ?_
  refine ps_st (S' := (2, [(0, .ref m0), (1, .int (nI j)), (2, .int 2)], [.int 0, .ref m0], M)) rfl rfl rfl ?_
  refine pr_put (j := 0) rfl hR rfl (fun M1 I2 hR3 hi4 hI5 => ?_)
  have hi6 := (hI5 18 (by decide)).trans hi18
  have hi7 := (hI5 51 (by decide)).trans hi51
  have hi8 := (hI5 52 (by decide)).trans hi52
  have hi9 := (hI5 53 (by decide)).trans hi53
  have hF_10 := hF.mono (pIx hI5 (by decide)) (fun _ _ => rfl)
  have hY_11 := hY.mono (pIx hI5 (by decide)) (fun _ _ => rfl)
  have hP_12 := hP.mono (pIx hI5 (by decide)) (fun _ _ => rfl)
  have hEI13 := hEI.put hI5 (by decide)
  show pl _ _ _ (5, [(0, .ref m0), (1, .int (nI j)), (2, .int 2)], [], M1) _
  refine ps_st (S' := (6, [(0, .ref m0), (1, .int (nI j)), (2, .int 2)], [.int 2], M1)) rfl rfl rfl ?_
  refine ps_if (S1 := (14, [(0, .ref m0)], [], M1)) (S2 := (9, [(0, .ref m0), (1, .int (nI j)), (2, .int 2)], [], M1)) rfl rfl rfl (fun c_6 => ?_) (fun c_6 => ?_)
  · exact absurd (of_decide_eq_true c_6) (by decide)
  refine ps_st (S' := (10, [(0, .ref m0), (1, .int (nI j)), (2, .int 2)], [.int 2], M1)) rfl rfl rfl ?_
  refine ps_st (S' := (11, [(0, .ref m0), (1, .int (nI j)), (2, .int 2)], [.int 2, .int 2], M1)) rfl rfl rfl ?_
  refine ps_if2 (S1 := (19, [(0, .ref m0), (1, .int (nI j)), (2, .int 2)], [], M1)) (S2 := (14, [(0, .ref m0)], [], M1)) rfl rfl rfl (fun c_11 => ?_) (fun c_11 => ?_)
  rotate_left
  · exact absurd (by decide) (of_decide_eq_false c_11)
  refine ps_st (S' := (20, [(0, .ref m0), (1, .int (nI j)), (2, .int 2)], [.ref m0], M1)) rfl rfl rfl ?_
  refine pr_int (j := 18) (S' := (23, [(0, .ref m0), (1, .int (nI j)), (2, .int 2)], [.int (nI n2)], M1)) rfl hR3 rfl hi6 rfl ?_
  refine ps_if (S1 := (38, [], [], M1)) (S2 := (26, [(0, .ref m0), (1, .int (nI j)), (2, .int 2)], [], M1)) rfl rfl rfl (fun c_23 => ?_) (fun c_23 => ?_)
  · exact absurd (of_decide_eq_true c_23) (show ¬ ((nI n2) < 0) from fun h9 => absurd ((lt_nI (p := n2) (n := 0) (by omega) (by decide)).mp h9) (by omega))
  refine ps_st (S' := (27, [(0, .ref m0), (1, .int (nI j)), (2, .int 2)], [.int (nI j)], M1)) rfl rfl rfl ?_
  refine ps_if (S1 := (38, [], [], M1)) (S2 := (30, [(0, .ref m0), (1, .int (nI j)), (2, .int 2)], [], M1)) rfl rfl rfl (fun c_27 => ?_) (fun c_27 => ?_)
  · exact absurd (of_decide_eq_true c_27) (show ¬ ((nI j) < 0) from fun h9 => absurd ((lt_nI (p := j) (n := 0) (by omega) (by decide)).mp h9) (by omega))
  refine ps_st (S' := (31, [(0, .ref m0), (1, .int (nI j)), (2, .int 2)], [.int (nI j)], M1)) rfl rfl rfl ?_
  refine ps_st (S' := (32, [(0, .ref m0), (1, .int (nI j)), (2, .int 2)], [.ref m0, .int (nI j)], M1)) rfl rfl rfl ?_
  refine pr_int (j := 52) (S' := (35, [(0, .ref m0), (1, .int (nI j)), (2, .int 2)], [.int (nI N), .int (nI j)], M1)) rfl hR3 rfl hi8 rfl ?_
  refine ps_if2 (S1 := (40, [(0, .ref m0), (1, .int (nI j)), (2, .int 2)], [], M1)) (S2 := (38, [], [], M1)) rfl rfl rfl (fun c_35 => ?_) (fun c_35 => ?_)
  rotate_left
  · exact absurd ((lt_nI (by omega) (by omega)).mpr hj) (of_decide_eq_false c_35)
  refine ps_st (S' := (41, [(0, .ref m0), (1, .int (nI j)), (2, .int 2)], [.ref m0], M1)) rfl rfl rfl ?_
  refine ps_st (S' := (42, [(0, .ref m0), (1, .int (nI j)), (2, .int 2)], [.int (nI j), .ref m0], M1)) rfl rfl rfl ?_
  refine pl_call (a := [.ref m0, .int (nI j)]) (rest := []) rfl rfl rfl (rd_tag (n := n) (f := f) (tx := tx) (cN := cN) (A := A) (N := N) (mj := mj) (E := E) (k := j) hR3 hi7 hi8 hi9 hF_10 hY_11 hP_12 (hEP) (hN) (hmj) (by omega)) (fun v14 M15 q16 => ?_)
  obtain ⟨rfl, rfl⟩ := q16
  show pl _ _ _ (45, [(0, .ref m0), (1, .int (nI j)), (2, .int 2)], [.int (nI (tg f E j))], M1) _
  have htg_42 := tg_lt f E j
  refine ps_st (S' := (46, [(3, .int (nI (tg f E j))), (0, .ref m0), (1, .int (nI j)), (2, .int 2)], [], M1)) rfl rfl rfl ?_
  refine ps_st (S' := (47, [(3, .int (nI (tg f E j))), (0, .ref m0), (1, .int (nI j)), (2, .int 2)], [.int 2], M1)) rfl rfl rfl ?_
  refine ps_if (S1 := (52, [(3, .int (nI (tg f E j))), (0, .ref m0), (1, .int (nI j)), (2, .int 2)], [], M1)) (S2 := (50, [(3, .int (nI (tg f E j))), (0, .ref m0), (1, .int (nI j)), (2, .int 2)], [], M1)) rfl rfl rfl (fun c_47 => ?_) (fun c_47 => ?_)
  rotate_left
  · exact absurd (by decide) (of_decide_eq_false c_47)
  refine ps_st (S' := (53, [(3, .int (nI (tg f E j))), (0, .ref m0), (1, .int (nI j)), (2, .int 2)], [.int (nI (tg f E j))], M1)) rfl rfl rfl ?_
  refine ps_st (S' := (55, [(3, .int (nI (tg f E j))), (0, .ref m0), (1, .int (nI j)), (2, .int 2)], [.int 15, .int (nI (tg f E j))], M1)) rfl rfl rfl ?_
  refine ps_if2 (S1 := (85, [(3, .int (nI (tg f E j))), (0, .ref m0), (1, .int (nI j)), (2, .int 2)], [], M1)) (S2 := (58, [(3, .int (nI (tg f E j))), (0, .ref m0), (1, .int (nI j)), (2, .int 2)], [], M1)) rfl rfl rfl (fun c_55 => ?_) (fun c_55 => ?_)
  · have c_55 : ¬ (nI (tg f E j)) = 15 := of_decide_eq_true c_55
    have n_55 : ¬ (tg f E j = 15) := fun h9 => c_55 ((eq_nI (p := tg f E j) (n := 15) (Nat.lt_trans (tg_lt _ _ _) (by decide)) (by decide)).mpr h9)
    refine ps_st (S' := (86, [(3, .int (nI (tg f E j))), (0, .ref m0), (1, .int (nI j)), (2, .int 2)], [.int (nI (tg f E j))], M1)) rfl rfl rfl ?_
    refine ps_st (S' := (88, [(3, .int (nI (tg f E j))), (0, .ref m0), (1, .int (nI j)), (2, .int 2)], [.int 7, .int (nI (tg f E j))], M1)) rfl rfl rfl ?_
    refine ps_if2 (S1 := (115, [(0, .ref m0), (1, .int (nI j)), (2, .int 2)], [], M1)) (S2 := (91, [(3, .int (nI (tg f E j))), (0, .ref m0), (1, .int (nI j)), (2, .int 2)], [], M1)) rfl rfl rfl (fun c_88 => ?_) (fun c_88 => ?_)
    · have c_88 : (nI (tg f E j)) = 7 := of_decide_eq_true c_88
      have n_88 : tg f E j = 7 := (eq_nI (p := tg f E j) (n := 7) (Nat.lt_trans (tg_lt _ _ _) (by decide)) (by decide)).mp c_88
      refine ps_st (S' := (116, [(0, .ref m0), (1, .int (nI j)), (2, .int 2)], [.int 2], M1)) rfl rfl rfl ?_
      refine ps_st (S' := (117, [(0, .ref m0), (1, .int (nI j)), (2, .int 2)], [.int 1, .int 2], M1)) rfl rfl rfl ?_
      refine ps_if2 (S1 := (129, [(0, .ref m0), (1, .int (nI j)), (2, .int 2)], [], M1)) (S2 := (120, [(0, .ref m0), (1, .int (nI j)), (2, .int 2)], [], M1)) rfl rfl rfl (fun c_117 => ?_) (fun c_117 => ?_)
      rotate_left
      · exact absurd (by decide) (of_decide_eq_false c_117)
      refine ps_st (S' := (130, [], [.int 0], M1)) rfl rfl rfl ?_
      exact ps_ret rfl rfl (⟨I2, R, by rw [show se f E j = 0 from (by first | exact (ix_7 (by omega)).2 | exact se_1 (by omega))]; rfl, hR3, hEI13, hER, hi4⟩)
    · have c_88 : ¬ ((nI (tg f E j)) = 7) := of_decide_eq_false c_88
      have n_88 : ¬ (tg f E j = 7) := fun h9 => c_88 ((eq_nI (p := tg f E j) (n := 7) (Nat.lt_trans (tg_lt _ _ _) (by decide)) (by decide)).mpr h9)
      refine ps_st (S' := (92, [(3, .int (nI (tg f E j))), (0, .ref m0), (1, .int (nI j)), (2, .int 2)], [.int (nI (tg f E j))], M1)) rfl rfl rfl ?_
      refine ps_st (S' := (94, [(3, .int (nI (tg f E j))), (0, .ref m0), (1, .int (nI j)), (2, .int 2)], [.int 8, .int (nI (tg f E j))], M1)) rfl rfl rfl ?_
      refine ps_if2 (S1 := (115, [(0, .ref m0), (1, .int (nI j)), (2, .int 2)], [], M1)) (S2 := (97, [(3, .int (nI (tg f E j))), (0, .ref m0), (1, .int (nI j)), (2, .int 2)], [], M1)) rfl rfl rfl (fun c_94 => ?_) (fun c_94 => ?_)
      · have c_94 : (nI (tg f E j)) = 8 := of_decide_eq_true c_94
        have n_94 : tg f E j = 8 := (eq_nI (p := tg f E j) (n := 8) (Nat.lt_trans (tg_lt _ _ _) (by decide)) (by decide)).mp c_94
        refine ps_st (S' := (116, [(0, .ref m0), (1, .int (nI j)), (2, .int 2)], [.int 2], M1)) rfl rfl rfl ?_
        refine ps_st (S' := (117, [(0, .ref m0), (1, .int (nI j)), (2, .int 2)], [.int 1, .int 2], M1)) rfl rfl rfl ?_
        refine ps_if2 (S1 := (129, [(0, .ref m0), (1, .int (nI j)), (2, .int 2)], [], M1)) (S2 := (120, [(0, .ref m0), (1, .int (nI j)), (2, .int 2)], [], M1)) rfl rfl rfl (fun c_117 => ?_) (fun c_117 => ?_)
        rotate_left
        · exact absurd (by decide) (of_decide_eq_false c_117)
        refine ps_st (S' := (130, [], [.int 0], M1)) rfl rfl rfl ?_
        exact ps_ret rfl rfl (⟨I2, R, by rw [show se f E j = 0 from (by first | exact (ix_7 (by omega)).2 | exact se_1 (by omega))]; rfl, hR3, hEI13, hER, hi4⟩)
      · have c_94 : ¬ ((nI (tg f E j)) = 8) := of_decide_eq_false c_94
        have n_94 : ¬ (tg f E j = 8) := fun h9 => c_94 ((eq_nI (p := tg f E j) (n := 8) (Nat.lt_trans (tg_lt _ _ _) (by decide)) (by decide)).mpr h9)
        refine ps_st (S' := (98, [(3, .int (nI (tg f E j))), (0, .ref m0), (1, .int (nI j)), (2, .int 2)], [.int (nI (tg f E j))], M1)) rfl rfl rfl ?_
        refine ps_st (S' := (100, [(3, .int (nI (tg f E j))), (0, .ref m0), (1, .int (nI j)), (2, .int 2)], [.int 16, .int (nI (tg f E j))], M1)) rfl rfl rfl ?_
        refine ps_if2 (S1 := (115, [(0, .ref m0), (1, .int (nI j)), (2, .int 2)], [], M1)) (S2 := (103, [(3, .int (nI (tg f E j))), (0, .ref m0), (1, .int (nI j)), (2, .int 2)], [], M1)) rfl rfl rfl (fun c_100 => ?_) (fun c_100 => ?_)
        · have c_100 : (nI (tg f E j)) = 16 := of_decide_eq_true c_100
          have n_100 : tg f E j = 16 := (eq_nI (p := tg f E j) (n := 16) (Nat.lt_trans (tg_lt _ _ _) (by decide)) (by decide)).mp c_100
          refine ps_st (S' := (116, [(0, .ref m0), (1, .int (nI j)), (2, .int 2)], [.int 2], M1)) rfl rfl rfl ?_
          refine ps_st (S' := (117, [(0, .ref m0), (1, .int (nI j)), (2, .int 2)], [.int 1, .int 2], M1)) rfl rfl rfl ?_
          refine ps_if2 (S1 := (129, [(0, .ref m0), (1, .int (nI j)), (2, .int 2)], [], M1)) (S2 := (120, [(0, .ref m0), (1, .int (nI j)), (2, .int 2)], [], M1)) rfl rfl rfl (fun c_117 => ?_) (fun c_117 => ?_)
          rotate_left
          · exact absurd (by decide) (of_decide_eq_false c_117)
          refine ps_st (S' := (130, [], [.int 0], M1)) rfl rfl rfl ?_
          exact ps_ret rfl rfl (⟨I2, R, by rw [show se f E j = 0 from (by first | exact (ix_7 (by omega)).2 | exact se_1 (by omega))]; rfl, hR3, hEI13, hER, hi4⟩)
        · have c_100 : ¬ ((nI (tg f E j)) = 16) := of_decide_eq_false c_100
          have n_100 : ¬ (tg f E j = 16) := fun h9 => c_100 ((eq_nI (p := tg f E j) (n := 16) (Nat.lt_trans (tg_lt _ _ _) (by decide)) (by decide)).mpr h9)
          refine ps_st (S' := (104, [(3, .int (nI (tg f E j))), (0, .ref m0), (1, .int (nI j)), (2, .int 2)], [.int (nI (tg f E j))], M1)) rfl rfl rfl ?_
          refine ps_st (S' := (106, [(3, .int (nI (tg f E j))), (0, .ref m0), (1, .int (nI j)), (2, .int 2)], [.int 19, .int (nI (tg f E j))], M1)) rfl rfl rfl ?_
          refine ps_if2 (S1 := (115, [(0, .ref m0), (1, .int (nI j)), (2, .int 2)], [], M1)) (S2 := (109, [(3, .int (nI (tg f E j))), (0, .ref m0), (1, .int (nI j)), (2, .int 2)], [], M1)) rfl rfl rfl (fun c_106 => ?_) (fun c_106 => ?_)
          · have c_106 : (nI (tg f E j)) = 19 := of_decide_eq_true c_106
            have n_106 : tg f E j = 19 := (eq_nI (p := tg f E j) (n := 19) (Nat.lt_trans (tg_lt _ _ _) (by decide)) (by decide)).mp c_106
            refine ps_st (S' := (116, [(0, .ref m0), (1, .int (nI j)), (2, .int 2)], [.int 2], M1)) rfl rfl rfl ?_
            refine ps_st (S' := (117, [(0, .ref m0), (1, .int (nI j)), (2, .int 2)], [.int 1, .int 2], M1)) rfl rfl rfl ?_
            refine ps_if2 (S1 := (129, [(0, .ref m0), (1, .int (nI j)), (2, .int 2)], [], M1)) (S2 := (120, [(0, .ref m0), (1, .int (nI j)), (2, .int 2)], [], M1)) rfl rfl rfl (fun c_117 => ?_) (fun c_117 => ?_)
            rotate_left
            · exact absurd (by decide) (of_decide_eq_false c_117)
            refine ps_st (S' := (130, [], [.int 0], M1)) rfl rfl rfl ?_
            exact ps_ret rfl rfl (⟨I2, R, by rw [show se f E j = 0 from (by first | exact (ix_7 (by omega)).2 | exact se_1 (by omega))]; rfl, hR3, hEI13, hER, hi4⟩)
          · have c_106 : ¬ ((nI (tg f E j)) = 19) := of_decide_eq_false c_106
            have n_106 : ¬ (tg f E j = 19) := fun h9 => c_106 ((eq_nI (p := tg f E j) (n := 19) (Nat.lt_trans (tg_lt _ _ _) (by decide)) (by decide)).mpr h9)
            refine ps_st (S' := (110, [(3, .int (nI (tg f E j))), (0, .ref m0), (1, .int (nI j)), (2, .int 2)], [.int (nI (tg f E j))], M1)) rfl rfl rfl ?_
            refine ps_st (S' := (112, [(3, .int (nI (tg f E j))), (0, .ref m0), (1, .int (nI j)), (2, .int 2)], [.int 20, .int (nI (tg f E j))], M1)) rfl rfl rfl ?_
            refine ps_if2 (S1 := (131, [(3, .int (nI (tg f E j))), (0, .ref m0), (1, .int (nI j)), (2, .int 2)], [], M1)) (S2 := (115, [(0, .ref m0), (1, .int (nI j)), (2, .int 2)], [], M1)) rfl rfl rfl (fun c_112 => ?_) (fun c_112 => ?_)
            · have c_112 : ¬ (nI (tg f E j)) = 20 := of_decide_eq_true c_112
              have n_112 : ¬ (tg f E j = 20) := fun h9 => c_112 ((eq_nI (p := tg f E j) (n := 20) (Nat.lt_trans (tg_lt _ _ _) (by decide)) (by decide)).mpr h9)
              refine ps_st (S' := (132, [(3, .int (nI (tg f E j))), (0, .ref m0), (1, .int (nI j)), (2, .int 2)], [.int (nI (tg f E j))], M1)) rfl rfl rfl ?_
              refine ps_st (S' := (134, [(3, .int (nI (tg f E j))), (0, .ref m0), (1, .int (nI j)), (2, .int 2)], [.int 9, .int (nI (tg f E j))], M1)) rfl rfl rfl ?_
              refine ps_if2 (S1 := (143, [(0, .ref m0), (1, .int (nI j)), (2, .int 2), (3, .int (nI (tg f E j)))], [], M1)) (S2 := (137, [(3, .int (nI (tg f E j))), (0, .ref m0), (1, .int (nI j)), (2, .int 2)], [], M1)) rfl rfl rfl (fun c_134 => ?_) (fun c_134 => ?_)
              · have c_134 : (nI (tg f E j)) < 9 := of_decide_eq_true c_134
                have n_134 : tg f E j < 9 := (lt_nI (p := tg f E j) (n := 9) (Nat.lt_trans (tg_lt _ _ _) (by decide)) (by decide)).mp c_134
                refine ps_st (S' := (144, [(0, .ref m0), (1, .int (nI j)), (2, .int 2), (3, .int (nI (tg f E j)))], [.int (nI (tg f E j))], M1)) rfl rfl rfl ?_
                refine ps_st (S' := (146, [(0, .ref m0), (1, .int (nI j)), (2, .int 2), (3, .int (nI (tg f E j)))], [.int 17, .int (nI (tg f E j))], M1)) rfl rfl rfl ?_
                refine ps_if2 (S1 := (155, [(0, .ref m0), (1, .int (nI j)), (2, .int 2)], [], M1)) (S2 := (149, [(0, .ref m0), (1, .int (nI j)), (2, .int 2), (3, .int (nI (tg f E j)))], [], M1)) rfl rfl rfl (fun c_146 => ?_) (fun c_146 => ?_)
                · exact absurd (of_decide_eq_true c_146) (show ¬ ((nI (tg f E j)) = 17) from fun h9 => absurd ((eq_nI (p := tg f E j) (n := 17) (Nat.lt_trans (tg_lt _ _ _) (by decide)) (by decide)).mp h9) (by omega))
                refine ps_st (S' := (150, [(0, .ref m0), (1, .int (nI j)), (2, .int 2), (3, .int (nI (tg f E j)))], [.int (nI (tg f E j))], M1)) rfl rfl rfl ?_
                refine ps_st (S' := (152, [(0, .ref m0), (1, .int (nI j)), (2, .int 2), (3, .int (nI (tg f E j)))], [.int 18, .int (nI (tg f E j))], M1)) rfl rfl rfl ?_
                refine ps_if2 (S1 := (171, [(0, .ref m0), (1, .int (nI j)), (2, .int 2), (3, .int (nI (tg f E j)))], [], M1)) (S2 := (155, [(0, .ref m0), (1, .int (nI j)), (2, .int 2)], [], M1)) rfl rfl rfl (fun c_152 => ?_) (fun c_152 => ?_)
                rotate_left
                · exact absurd (show ¬ ((nI (tg f E j)) = 18) from fun h9 => absurd ((eq_nI (p := tg f E j) (n := 18) (Nat.lt_trans (tg_lt _ _ _) (by decide)) (by decide)).mp h9) (by omega)) (of_decide_eq_false c_152)
                refine ps_st (S' := (172, [(0, .ref m0), (1, .int (nI j)), (2, .int 2), (3, .int (nI (tg f E j)))], [.int 0], M1)) rfl rfl rfl ?_
                exact ps_ret rfl rfl (⟨I2, R, by rw [show se f E j = 0 from (by first | exact (ix_7 (by omega)).2 | exact se_1 (by omega))]; rfl, hR3, hEI13, hER, hi4⟩)
              · have c_134 : ¬ ((nI (tg f E j)) < 9) := of_decide_eq_false c_134
                have n_134 : ¬ (tg f E j < 9) := fun h9 => c_134 ((lt_nI (p := tg f E j) (n := 9) (Nat.lt_trans (tg_lt _ _ _) (by decide)) (by decide)).mpr h9)
                refine ps_st (S' := (138, [(3, .int (nI (tg f E j))), (0, .ref m0), (1, .int (nI j)), (2, .int 2)], [.int (nI (tg f E j))], M1)) rfl rfl rfl ?_
                refine ps_st (S' := (140, [(3, .int (nI (tg f E j))), (0, .ref m0), (1, .int (nI j)), (2, .int 2)], [.int 12, .int (nI (tg f E j))], M1)) rfl rfl rfl ?_
                refine ps_if2 (S1 := (155, [(0, .ref m0), (1, .int (nI j)), (2, .int 2)], [], M1)) (S2 := (143, [(0, .ref m0), (1, .int (nI j)), (2, .int 2), (3, .int (nI (tg f E j)))], [], M1)) rfl rfl rfl (fun c_140 => ?_) (fun c_140 => ?_)
                · have c_140 : (nI (tg f E j)) ≤ 12 := of_decide_eq_true c_140
                  have n_140 : tg f E j ≤ 12 := (le_nI (p := tg f E j) (n := 12) (Nat.lt_trans (tg_lt _ _ _) (by decide)) (by decide)).mp c_140
                  refine ps_st (S' := (156, [(0, .ref m0), (1, .int (nI j)), (2, .int 2)], [.ref m0], M1)) rfl rfl rfl ?_
                  refine ps_st (S' := (157, [(0, .ref m0), (1, .int (nI j)), (2, .int 2)], [.int (nI j), .ref m0], M1)) rfl rfl rfl ?_
                  refine ps_st (S' := (158, [(0, .ref m0), (1, .int (nI j)), (2, .int 2)], [.int 2, .int (nI j), .ref m0], M1)) rfl rfl rfl ?_
                  refine ps_st (S' := (159, [(0, .ref m0), (1, .int (nI j)), (2, .int 2)], [.int 1, .int 2, .int (nI j), .ref m0], M1)) rfl rfl rfl ?_
                  refine ps_if2 (S1 := (166, [(0, .ref m0), (1, .int (nI j)), (2, .int 2)], [.int (nI j), .ref m0], M1)) (S2 := (162, [(0, .ref m0), (1, .int (nI j)), (2, .int 2)], [.int (nI j), .ref m0], M1)) rfl rfl rfl (fun c_159 => ?_) (fun c_159 => ?_)
                  rotate_left
                  · exact absurd (by decide) (of_decide_eq_false c_159)
                  refine ps_st (S' := (167, [], [.int 3, .int (nI j), .ref m0], M1)) rfl rfl rfl ?_
                  refine pl_call (a := [.ref m0, .int (nI j), .int 3]) (rest := []) rfl rfl rfl (rd_idx3 (n := n) (f := f) (tx := tx) (cN := cN) (A := A) (N := N) (mj := mj) (E := E) (k := j) hR3 hi7 hi8 hi9 hF_10 hY_11 hP_12 (hEP) (hN) (hmj) (by omega)) (fun v17 M18 q19 => ?_)
                  obtain ⟨rfl, rfl⟩ := q19
                  show pl _ _ _ (170, [], [.int (nI (se f E j))], M1) _
                  have hix_167 := se_lt f E j
                  exact ps_reti rfl (⟨I2, R, rfl, hR3, hEI13, hER, hi4⟩)
                · have c_140 : ¬ ((nI (tg f E j)) ≤ 12) := of_decide_eq_false c_140
                  have n_140 : ¬ (tg f E j ≤ 12) := fun h9 => c_140 ((le_nI (p := tg f E j) (n := 12) (Nat.lt_trans (tg_lt _ _ _) (by decide)) (by decide)).mpr h9)
                  refine ps_st (S' := (144, [(0, .ref m0), (1, .int (nI j)), (2, .int 2), (3, .int (nI (tg f E j)))], [.int (nI (tg f E j))], M1)) rfl rfl rfl ?_
                  refine ps_st (S' := (146, [(0, .ref m0), (1, .int (nI j)), (2, .int 2), (3, .int (nI (tg f E j)))], [.int 17, .int (nI (tg f E j))], M1)) rfl rfl rfl ?_
                  refine ps_if2 (S1 := (155, [(0, .ref m0), (1, .int (nI j)), (2, .int 2)], [], M1)) (S2 := (149, [(0, .ref m0), (1, .int (nI j)), (2, .int 2), (3, .int (nI (tg f E j)))], [], M1)) rfl rfl rfl (fun c_146 => ?_) (fun c_146 => ?_)
                  · have c_146 : (nI (tg f E j)) = 17 := of_decide_eq_true c_146
                    have n_146 : tg f E j = 17 := (eq_nI (p := tg f E j) (n := 17) (Nat.lt_trans (tg_lt _ _ _) (by decide)) (by decide)).mp c_146
                    refine ps_st (S' := (156, [(0, .ref m0), (1, .int (nI j)), (2, .int 2)], [.ref m0], M1)) rfl rfl rfl ?_
                    refine ps_st (S' := (157, [(0, .ref m0), (1, .int (nI j)), (2, .int 2)], [.int (nI j), .ref m0], M1)) rfl rfl rfl ?_
                    refine ps_st (S' := (158, [(0, .ref m0), (1, .int (nI j)), (2, .int 2)], [.int 2, .int (nI j), .ref m0], M1)) rfl rfl rfl ?_
                    refine ps_st (S' := (159, [(0, .ref m0), (1, .int (nI j)), (2, .int 2)], [.int 1, .int 2, .int (nI j), .ref m0], M1)) rfl rfl rfl ?_
                    refine ps_if2 (S1 := (166, [(0, .ref m0), (1, .int (nI j)), (2, .int 2)], [.int (nI j), .ref m0], M1)) (S2 := (162, [(0, .ref m0), (1, .int (nI j)), (2, .int 2)], [.int (nI j), .ref m0], M1)) rfl rfl rfl (fun c_159 => ?_) (fun c_159 => ?_)
                    rotate_left
                    · exact absurd (by decide) (of_decide_eq_false c_159)
                    refine ps_st (S' := (167, [], [.int 3, .int (nI j), .ref m0], M1)) rfl rfl rfl ?_
                    refine pl_call (a := [.ref m0, .int (nI j), .int 3]) (rest := []) rfl rfl rfl (rd_idx3 (n := n) (f := f) (tx := tx) (cN := cN) (A := A) (N := N) (mj := mj) (E := E) (k := j) hR3 hi7 hi8 hi9 hF_10 hY_11 hP_12 (hEP) (hN) (hmj) (by omega)) (fun v20 M21 q22 => ?_)
                    obtain ⟨rfl, rfl⟩ := q22
                    show pl _ _ _ (170, [], [.int (nI (se f E j))], M1) _
                    have hix_167 := se_lt f E j
                    exact ps_reti rfl (⟨I2, R, rfl, hR3, hEI13, hER, hi4⟩)
                  · have c_146 : ¬ ((nI (tg f E j)) = 17) := of_decide_eq_false c_146
                    have n_146 : ¬ (tg f E j = 17) := fun h9 => c_146 ((eq_nI (p := tg f E j) (n := 17) (Nat.lt_trans (tg_lt _ _ _) (by decide)) (by decide)).mpr h9)
                    refine ps_st (S' := (150, [(0, .ref m0), (1, .int (nI j)), (2, .int 2), (3, .int (nI (tg f E j)))], [.int (nI (tg f E j))], M1)) rfl rfl rfl ?_
                    refine ps_st (S' := (152, [(0, .ref m0), (1, .int (nI j)), (2, .int 2), (3, .int (nI (tg f E j)))], [.int 18, .int (nI (tg f E j))], M1)) rfl rfl rfl ?_
                    refine ps_if2 (S1 := (171, [(0, .ref m0), (1, .int (nI j)), (2, .int 2), (3, .int (nI (tg f E j)))], [], M1)) (S2 := (155, [(0, .ref m0), (1, .int (nI j)), (2, .int 2)], [], M1)) rfl rfl rfl (fun c_152 => ?_) (fun c_152 => ?_)
                    · have c_152 : ¬ (nI (tg f E j)) = 18 := of_decide_eq_true c_152
                      have n_152 : ¬ (tg f E j = 18) := fun h9 => c_152 ((eq_nI (p := tg f E j) (n := 18) (Nat.lt_trans (tg_lt _ _ _) (by decide)) (by decide)).mpr h9)
                      refine ps_st (S' := (172, [(0, .ref m0), (1, .int (nI j)), (2, .int 2), (3, .int (nI (tg f E j)))], [.int 0], M1)) rfl rfl rfl ?_
                      exact ps_ret rfl rfl (⟨I2, R, by rw [show se f E j = 0 from (by first | exact (ix_7 (by omega)).2 | exact se_1 (by omega))]; rfl, hR3, hEI13, hER, hi4⟩)
                    · have c_152 : ¬ (¬ (nI (tg f E j)) = 18) := of_decide_eq_false c_152
                      have n_152 : tg f E j = 18 := (eq_nI (p := tg f E j) (n := 18) (Nat.lt_trans (tg_lt _ _ _) (by decide)) (by decide)).mp (Decidable.not_not.mp c_152)
                      refine ps_st (S' := (156, [(0, .ref m0), (1, .int (nI j)), (2, .int 2)], [.ref m0], M1)) rfl rfl rfl ?_
                      refine ps_st (S' := (157, [(0, .ref m0), (1, .int (nI j)), (2, .int 2)], [.int (nI j), .ref m0], M1)) rfl rfl rfl ?_
                      refine ps_st (S' := (158, [(0, .ref m0), (1, .int (nI j)), (2, .int 2)], [.int 2, .int (nI j), .ref m0], M1)) rfl rfl rfl ?_
                      refine ps_st (S' := (159, [(0, .ref m0), (1, .int (nI j)), (2, .int 2)], [.int 1, .int 2, .int (nI j), .ref m0], M1)) rfl rfl rfl ?_
                      refine ps_if2 (S1 := (166, [(0, .ref m0), (1, .int (nI j)), (2, .int 2)], [.int (nI j), .ref m0], M1)) (S2 := (162, [(0, .ref m0), (1, .int (nI j)), (2, .int 2)], [.int (nI j), .ref m0], M1)) rfl rfl rfl (fun c_159 => ?_) (fun c_159 => ?_)
                      rotate_left
                      · exact absurd (by decide) (of_decide_eq_false c_159)
                      refine ps_st (S' := (167, [], [.int 3, .int (nI j), .ref m0], M1)) rfl rfl rfl ?_
                      refine pl_call (a := [.ref m0, .int (nI j), .int 3]) (rest := []) rfl rfl rfl (rd_idx3 (n := n) (f := f) (tx := tx) (cN := cN) (A := A) (N := N) (mj := mj) (E := E) (k := j) hR3 hi7 hi8 hi9 hF_10 hY_11 hP_12 (hEP) (hN) (hmj) (by omega)) (fun v23 M24 q25 => ?_)
                      obtain ⟨rfl, rfl⟩ := q25
                      show pl _ _ _ (170, [], [.int (nI (se f E j))], M1) _
                      have hix_167 := se_lt f E j
                      exact ps_reti rfl (⟨I2, R, rfl, hR3, hEI13, hER, hi4⟩)
            · have c_112 : ¬ (¬ (nI (tg f E j)) = 20) := of_decide_eq_false c_112
              have n_112 : tg f E j = 20 := (eq_nI (p := tg f E j) (n := 20) (Nat.lt_trans (tg_lt _ _ _) (by decide)) (by decide)).mp (Decidable.not_not.mp c_112)
              refine ps_st (S' := (116, [(0, .ref m0), (1, .int (nI j)), (2, .int 2)], [.int 2], M1)) rfl rfl rfl ?_
              refine ps_st (S' := (117, [(0, .ref m0), (1, .int (nI j)), (2, .int 2)], [.int 1, .int 2], M1)) rfl rfl rfl ?_
              refine ps_if2 (S1 := (129, [(0, .ref m0), (1, .int (nI j)), (2, .int 2)], [], M1)) (S2 := (120, [(0, .ref m0), (1, .int (nI j)), (2, .int 2)], [], M1)) rfl rfl rfl (fun c_117 => ?_) (fun c_117 => ?_)
              rotate_left
              · exact absurd (by decide) (of_decide_eq_false c_117)
              refine ps_st (S' := (130, [], [.int 0], M1)) rfl rfl rfl ?_
              exact ps_ret rfl rfl (⟨I2, R, by rw [show se f E j = 0 from (by first | exact (ix_7 (by omega)).2 | exact se_1 (by omega))]; rfl, hR3, hEI13, hER, hi4⟩)
  · have c_55 : ¬ (¬ (nI (tg f E j)) = 15) := of_decide_eq_false c_55
    have n_55 : tg f E j = 15 := (eq_nI (p := tg f E j) (n := 15) (Nat.lt_trans (tg_lt _ _ _) (by decide)) (by decide)).mp (Decidable.not_not.mp c_55)
    refine ps_st (S' := (59, [(3, .int (nI (tg f E j))), (0, .ref m0), (1, .int (nI j)), (2, .int 2)], [.int 2], M1)) rfl rfl rfl ?_
    refine ps_st (S' := (60, [(3, .int (nI (tg f E j))), (0, .ref m0), (1, .int (nI j)), (2, .int 2)], [.int 1, .int 2], M1)) rfl rfl rfl ?_
    refine ps_if2 (S1 := (78, [(3, .int (nI (tg f E j))), (0, .ref m0), (1, .int (nI j)), (2, .int 2)], [], M1)) (S2 := (63, [(3, .int (nI (tg f E j))), (0, .ref m0), (1, .int (nI j)), (2, .int 2)], [], M1)) rfl rfl rfl (fun c_60 => ?_) (fun c_60 => ?_)
    rotate_left
    · exact absurd (by decide) (of_decide_eq_false c_60)
    refine ps_st (S' := (79, [(3, .int (nI (tg f E j))), (0, .ref m0), (1, .int (nI j)), (2, .int 2)], [.ref m0], M1)) rfl rfl rfl ?_
    refine ps_st (S' := (80, [(3, .int (nI (tg f E j))), (0, .ref m0), (1, .int (nI j)), (2, .int 2)], [.int (nI j), .ref m0], M1)) rfl rfl rfl ?_
    refine ps_st (S' := (81, [(3, .int (nI (tg f E j))), (0, .ref m0), (1, .int (nI j)), (2, .int 2)], [.int 2, .int (nI j), .ref m0], M1)) rfl rfl rfl ?_
    refine pl_call (a := [.ref m0, .int (nI j), .int 2]) (rest := []) rfl rfl rfl (rd_idx2 (n := n) (f := f) (tx := tx) (cN := cN) (A := A) (N := N) (mj := mj) (E := E) (k := j) hR3 hi7 hi8 hi9 hF_10 hY_11 hP_12 (hEP) (hN) (hmj) (by omega)) (fun v26 M27 q28 => ?_)
    obtain ⟨rfl, rfl⟩ := q28
    show pl _ _ _ (84, [], [.int (nI (se f E j))], M1) _
    have hix_81 := se_lt f E j
    exact ps_reti rfl (⟨I2, R, rfl, hR3, hEI13, hER, hi4⟩)
theorem rd_entry {g : xe_G} {m0 : Nat} {q : Nat → Nat} {z : Nat × Nat} {I : rI} {R : rR} {M : mi_H} {ko : Option (Nat × (Nat → Int32))} {k p : Int32} (hR : RS g m0 q z I R M) (hK : KPR ko I R) (hp0 : ¬ p < 0) (hp1 : p ≤ 2) : pt (mT g) 204 [.ref m0, .int k, .int p] M (fun v M' => ∃ (I' : rI) (R' : rR), v = some (.int (enK ko k p)) ∧ RS g m0 q z I' R' M' ∧ eqI [0] I I' ∧ eqR [] R R' ∧ I' 0 = some 0) := by
  cases ko with
  | none =>
    obtain ⟨kn, h1, h2⟩ := hK
    exact rd_entry0 hR h1 hp0 hp1 h2
  | some r =>
    obtain ⟨h1, h2, -, -, tx, cN, A, E, N, mj, p1, pF, pM, pA, k1, k2, k3, k4, k5, k6, k7, rfl, rfl, -⟩ := hK
    rw [enK_is k7]
    have hN := by2_lt r.2 8
    have hpl := whole_in k7
    have hEP := (EP_of hpl).1
    unfold enI
    by_cases hk : k < 0 ∨ nI (by2 r.2 8) ≤ k
    · rw [if_pos hk]
      exact rd_entryN hR h1 k4 k5 k6 k1 k2 k3 hEP hN hp0 hp1 h2 hk
    · rw [if_neg hk]
      obtain ⟨e, hj⟩ := i32_in hN hk
      obtain ⟨j, ej⟩ : ∃ j, j = k.toNatClampNeg := ⟨_, rfl⟩
      rw [← ej] at e hj ⊢
      subst e
      rcases i32_3 hp0 hp1 with rfl | rfl | rfl
      · exact rd_entry_0 hR h1 k4 k5 k6 k1 k2 k3 hEP hN (by2_lt _ _) h2 hj hpl
      · exact rd_entry_1 hR h1 k4 k5 k6 k1 k2 k3 hEP hN (by2_lt _ _) h2 hj hpl
      · exact rd_entry_2 hR h1 k4 k5 k6 k1 k2 k3 hEP hN (by2_lt _ _) h2 hj hpl
