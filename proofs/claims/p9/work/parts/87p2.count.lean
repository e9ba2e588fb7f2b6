set_option maxHeartbeats 1000000 in
theorem rd_countB {g : xe_G} {m0 : Nat} {q : Nat → Nat} {z : Nat × Nat} {I : rI} {R : rR} {M : mi_H} {w : Int32} (hR : RS g m0 q z I R M)   (hbad : w < 0 ∨ ¬ w ≤ 15) : pt (mT g) 198 [.ref m0, .int w] M (fun v M' => (∃  (I' : rI) (R' : rR), v = some (.int 0) ∧ RS g m0 q z I' R' M' ∧ eqI [0] I I' ∧ eqR [] R R' ∧ I' 0 = some 1)) := by
  refine pt_in (b := mb_198 g) rfl (fun kf => ?_)
  show pl (mT g) kf (mb_198 g).2 (0, [(0, .ref m0), (1, .int w)], [], M) _
  have hEI : eqI [0] I I := eqI.rf
  have hER : eqR [] R R := eqR.rf
  refine ps_st (S' := (1, [(0, .ref m0), (1, .int w)], [.ref m0], M)) rfl rfl rfl ?_
  refine ps_st (S' := (2, [(0, .ref m0), (1, .int w)], [.int 0, .ref m0], M)) rfl rfl rfl ?_
  refine pr_put (j := 0) rfl hR rfl (fun M1 I2 hR3 hi4 hI5 => ?_)
  have hEI6 := hEI.put hI5 (by decide)
  show pl _ _ _ (5, [(0, .ref m0), (1, .int w)], [], M1) _
  refine ps_st (S' := (6, [(0, .ref m0), (1, .int w)], [.int w], M1)) rfl rfl rfl ?_
  refine ps_if (S1 := (15, [(0, .ref m0)], [], M1)) (S2 := (9, [(0, .ref m0), (1, .int w)], [], M1)) rfl rfl rfl (fun c_6 => ?_) (fun c_6 => ?_)
  · have c_6 : w < 0 := of_decide_eq_true c_6
    refine ps_st (S' := (16, [(0, .ref m0)], [.ref m0], M1)) rfl rfl rfl ?_
    refine pl_call (a := [.ref m0]) (rest := []) rfl rfl rfl (rd_bad hR3) (fun v7 M8 q9 => ?_)
    obtain ⟨I10, R11, rfl, hR12, hI13, hX14, hi15⟩ := q9
    have hEI16 := hEI6.tr hI13 (by decide)
    have hER17 := hER.tr hX14 (by decide)
    show pl _ _ _ (19, [(0, .ref m0)], [.int 0], M8) _
    exact ps_ret rfl rfl (⟨I10, R11, rfl, hR12, hEI16, hER17, hi15⟩)
  · have c_6 : ¬ (w < 0) := of_decide_eq_false c_6
    refine ps_st (S' := (10, [(0, .ref m0), (1, .int w)], [.int w], M1)) rfl rfl rfl ?_
    refine ps_st (S' := (12, [(0, .ref m0), (1, .int w)], [.int 15, .int w], M1)) rfl rfl rfl ?_
    refine ps_if2 (S1 := (20, [(0, .ref m0), (1, .int w)], [], M1)) (S2 := (15, [(0, .ref m0)], [], M1)) rfl rfl rfl (fun c_12 => ?_) (fun c_12 => ?_)
    · have c_12 : w ≤ 15 := of_decide_eq_true c_12
      exact absurd hbad (fun h9 => h9.elim c_6 (fun h8 => h8 c_12))
    · have c_12 : ¬ (w ≤ 15) := of_decide_eq_false c_12
      refine ps_st (S' := (16, [(0, .ref m0)], [.ref m0], M1)) rfl rfl rfl ?_
      refine pl_call (a := [.ref m0]) (rest := []) rfl rfl rfl (rd_bad hR3) (fun v18 M19 q20 => ?_)
      obtain ⟨I21, R22, rfl, hR23, hI24, hX25, hi26⟩ := q20
      have hEI27 := hEI6.tr hI24 (by decide)
      have hER28 := hER.tr hX25 (by decide)
      show pl _ _ _ (19, [(0, .ref m0)], [.int 0], M19) _
      exact ps_ret rfl rfl (⟨I21, R22, rfl, hR23, hEI27, hER28, hi26⟩)
set_option maxHeartbeats 1000000 in
theorem rd_count0 {g : xe_G} {m0 : Nat} {q : Nat → Nat} {z : Nat × Nat} {I : rI} {R : rR} {M : mi_H} {kn w : Int32} (hR : RS g m0 q z I R M) (hi18 : I 18 = some kn)  (h0 : ¬ w < 0) (h1 : w ≤ 15) (hk : kn < 0) : pt (mT g) 198 [.ref m0, .int w] M (fun v M' => (∃  (I' : rI) (R' : rR), v = some (.int (-1)) ∧ RS g m0 q z I' R' M' ∧ eqI [0] I I' ∧ eqR [] R R' ∧ I' 0 = some 0)) := by
  refine pt_in (b := mb_198 g) rfl (fun kf => ?_)
  show pl (mT g) kf (mb_198 g).2 (0, [(0, .ref m0), (1, .int w)], [], M) _
  have hEI : eqI [0] I I := eqI.rf
  have hER : eqR [] R R := eqR.rf
  refine ps_st (S' := (1, [(0, .ref m0), (1, .int w)], [.ref m0], M)) rfl rfl rfl ?_
  refine ps_st (S' := (2, [(0, .ref m0), (1, .int w)], [.int 0, .ref m0], M)) rfl rfl rfl ?_
  refine pr_put (j := 0) rfl hR rfl (fun M1 I2 hR3 hi4 hI5 => ?_)
  have hi6 := (hI5 18 (by decide)).trans hi18
  have hEI7 := hEI.put hI5 (by decide)
  show pl _ _ _ (5, [(0, .ref m0), (1, .int w)], [], M1) _
  refine ps_st (S' := (6, [(0, .ref m0), (1, .int w)], [.int w], M1)) rfl rfl rfl ?_
  refine ps_if (S1 := (15, [(0, .ref m0)], [], M1)) (S2 := (9, [(0, .ref m0), (1, .int w)], [], M1)) rfl rfl rfl (fun c_6 => ?_) (fun c_6 => ?_)
  · exact absurd (of_decide_eq_true c_6) (h0)
  refine ps_st (S' := (10, [(0, .ref m0), (1, .int w)], [.int w], M1)) rfl rfl rfl ?_
  refine ps_st (S' := (12, [(0, .ref m0), (1, .int w)], [.int 15, .int w], M1)) rfl rfl rfl ?_
  refine ps_if2 (S1 := (20, [(0, .ref m0), (1, .int w)], [], M1)) (S2 := (15, [(0, .ref m0)], [], M1)) rfl rfl rfl (fun c_12 => ?_) (fun c_12 => ?_)
  rotate_left
  · exact absurd (h1) (of_decide_eq_false c_12)
  refine ps_st (S' := (21, [(0, .ref m0), (1, .int w)], [.ref m0], M1)) rfl rfl rfl ?_
  refine pr_int (j := 18) (S' := (24, [(0, .ref m0), (1, .int w)], [.int kn], M1)) rfl hR3 rfl hi6 rfl ?_
  refine ps_if (S1 := (29, [(0, .ref m0), (1, .int w)], [], M1)) (S2 := (27, [(0, .ref m0), (1, .int w)], [], M1)) rfl rfl rfl (fun c_24 => ?_) (fun c_24 => ?_)
  · exact absurd (of_decide_eq_true c_24) (Int32.not_le.mpr hk)
  refine ps_st (S' := (28, [(0, .ref m0), (1, .int w)], [.int (-1)], M1)) rfl rfl rfl ?_
  exact ps_ret rfl rfl (⟨I2, R, rfl, hR3, hEI7, hER, hi4⟩)
set_option maxHeartbeats 1000000 in
theorem rd_count_0 {g : xe_G} {m0 : Nat} {q : Nat → Nat} {z : Nat × Nat} {I : rI} {R : rR} {M : mi_H} {n2 : Nat} {N : Nat} (hR : RS g m0 q z I R M) (hi18 : I 18 = some (nI n2)) (hi52 : I 52 = some (nI N))  (hn2 : n2 ≤ 65540) : pt (mT g) 198 [.ref m0, .int 0] M (fun v M' => (∃  (I' : rI) (R' : rR), v = some (.int (nI N)) ∧ RS g m0 q z I' R' M' ∧ eqI [0] I I' ∧ eqR [] R R' ∧ I' 0 = some 0)) := by
  refine pt_in (b := mb_198 g) rfl (fun kf => ?_)
  show pl (mT g) kf (mb_198 g).2 (0, [(0, .ref m0), (1, .int 0)], [], M) _
  have hEI : eqI [0] I I := eqI.rf
  have hER : eqR [] R R := eqR.rf
  refine ps_st (S' := (1, [(0, .ref m0), (1, .int 0)], [.ref m0], M)) rfl rfl rfl ?_
  refine ps_st (S' := (2, [(0, .ref m0), (1, .int 0)], [.int 0, .ref m0], M)) rfl rfl rfl ?_
  refine pr_put (j := 0) rfl hR rfl (fun M1 I2 hR3 hi4 hI5 => ?_)
  have hi6 := (hI5 18 (by decide)).trans hi18
  have hi7 := (hI5 52 (by decide)).trans hi52
  have hEI8 := hEI.put hI5 (by decide)
  show pl _ _ _ (5, [(0, .ref m0), (1, .int 0)], [], M1) _
  refine ps_st (S' := (6, [(0, .ref m0), (1, .int 0)], [.int 0], M1)) rfl rfl rfl ?_
  refine ps_if (S1 := (15, [(0, .ref m0)], [], M1)) (S2 := (9, [(0, .ref m0), (1, .int 0)], [], M1)) rfl rfl rfl (fun c_6 => ?_) (fun c_6 => ?_)
  · exact absurd (of_decide_eq_true c_6) (by decide)
  refine ps_st (S' := (10, [(0, .ref m0), (1, .int 0)], [.int 0], M1)) rfl rfl rfl ?_
  refine ps_st (S' := (12, [(0, .ref m0), (1, .int 0)], [.int 15, .int 0], M1)) rfl rfl rfl ?_
  refine ps_if2 (S1 := (20, [(0, .ref m0), (1, .int 0)], [], M1)) (S2 := (15, [(0, .ref m0)], [], M1)) rfl rfl rfl (fun c_12 => ?_) (fun c_12 => ?_)
  rotate_left
  · exact absurd (by decide) (of_decide_eq_false c_12)
  refine ps_st (S' := (21, [(0, .ref m0), (1, .int 0)], [.ref m0], M1)) rfl rfl rfl ?_
  refine pr_int (j := 18) (S' := (24, [(0, .ref m0), (1, .int 0)], [.int (nI n2)], M1)) rfl hR3 rfl hi6 rfl ?_
  refine ps_if (S1 := (29, [(0, .ref m0), (1, .int 0)], [], M1)) (S2 := (27, [(0, .ref m0), (1, .int 0)], [], M1)) rfl rfl rfl (fun c_24 => ?_) (fun c_24 => ?_)
  rotate_left
  · exact absurd ((le_nI (p := 0) (n := n2) (by decide) (by omega)).mpr (by omega)) (of_decide_eq_false c_24)
  refine ps_st (S' := (30, [(0, .ref m0), (1, .int 0)], [.int 0], M1)) rfl rfl rfl ?_
  refine ps_st (S' := (104, [(0, .ref m0), (1, .int 0)], [], M1)) rfl rfl rfl ?_
  refine ps_st (S' := (105, [(0, .ref m0), (1, .int 0)], [.ref m0], M1)) rfl rfl rfl ?_
  refine pr_int (j := 52) (S' := (108, [(0, .ref m0), (1, .int 0)], [.int (nI N)], M1)) rfl hR3 rfl hi7 rfl ?_
  exact ps_reti rfl (⟨I2, R, rfl, hR3, hEI8, hER, hi4⟩)
set_option maxHeartbeats 1000000 in
theorem rd_count_1 {g : xe_G} {m0 : Nat} {q : Nat → Nat} {z : Nat × Nat} {I : rI} {R : rR} {M : mi_H} {n2 : Nat} {l1 : Nat} (hR : RS g m0 q z I R M) (hi18 : I 18 = some (nI n2)) (hi25 : I 25 = some (nI l1))  (hn2 : n2 ≤ 65540) : pt (mT g) 198 [.ref m0, .int 1] M (fun v M' => (∃  (I' : rI) (R' : rR), v = some (.int (nI l1)) ∧ RS g m0 q z I' R' M' ∧ eqI [0] I I' ∧ eqR [] R R' ∧ I' 0 = some 0)) := by
  refine pt_in (b := mb_198 g) rfl (fun kf => ?_)
  show pl (mT g) kf (mb_198 g).2 (0, [(0, .ref m0), (1, .int 1)], [], M) _
  have hEI : eqI [0] I I := eqI.rf
  have hER : eqR [] R R := eqR.rf
  refine ps_st (S' := (1, [(0, .ref m0), (1, .int 1)], [.ref m0], M)) rfl rfl rfl ?_
  refine ps_st (S' := (2, [(0, .ref m0), (1, .int 1)], [.int 0, .ref m0], M)) rfl rfl rfl ?_
  refine pr_put (j := 0) rfl hR rfl (fun M1 I2 hR3 hi4 hI5 => ?_)
  have hi6 := (hI5 18 (by decide)).trans hi18
  have hi7 := (hI5 25 (by decide)).trans hi25
  have hEI8 := hEI.put hI5 (by decide)
  show pl _ _ _ (5, [(0, .ref m0), (1, .int 1)], [], M1) _
  refine ps_st (S' := (6, [(0, .ref m0), (1, .int 1)], [.int 1], M1)) rfl rfl rfl ?_
  refine ps_if (S1 := (15, [(0, .ref m0)], [], M1)) (S2 := (9, [(0, .ref m0), (1, .int 1)], [], M1)) rfl rfl rfl (fun c_6 => ?_) (fun c_6 => ?_)
  · exact absurd (of_decide_eq_true c_6) (by decide)
  refine ps_st (S' := (10, [(0, .ref m0), (1, .int 1)], [.int 1], M1)) rfl rfl rfl ?_
  refine ps_st (S' := (12, [(0, .ref m0), (1, .int 1)], [.int 15, .int 1], M1)) rfl rfl rfl ?_
  refine ps_if2 (S1 := (20, [(0, .ref m0), (1, .int 1)], [], M1)) (S2 := (15, [(0, .ref m0)], [], M1)) rfl rfl rfl (fun c_12 => ?_) (fun c_12 => ?_)
  rotate_left
  · exact absurd (by decide) (of_decide_eq_false c_12)
  refine ps_st (S' := (21, [(0, .ref m0), (1, .int 1)], [.ref m0], M1)) rfl rfl rfl ?_
  refine pr_int (j := 18) (S' := (24, [(0, .ref m0), (1, .int 1)], [.int (nI n2)], M1)) rfl hR3 rfl hi6 rfl ?_
  refine ps_if (S1 := (29, [(0, .ref m0), (1, .int 1)], [], M1)) (S2 := (27, [(0, .ref m0), (1, .int 1)], [], M1)) rfl rfl rfl (fun c_24 => ?_) (fun c_24 => ?_)
  rotate_left
  · exact absurd ((le_nI (p := 0) (n := n2) (by decide) (by omega)).mpr (by omega)) (of_decide_eq_false c_24)
  refine ps_st (S' := (30, [(0, .ref m0), (1, .int 1)], [.int 1], M1)) rfl rfl rfl ?_
  refine ps_st (S' := (109, [(0, .ref m0), (1, .int 1)], [], M1)) rfl rfl rfl ?_
  refine ps_st (S' := (110, [(0, .ref m0), (1, .int 1)], [.ref m0], M1)) rfl rfl rfl ?_
  refine pr_int (j := 25) (S' := (113, [(0, .ref m0), (1, .int 1)], [.int (nI l1)], M1)) rfl hR3 rfl hi7 rfl ?_
  exact ps_reti rfl (⟨I2, R, rfl, hR3, hEI8, hER, hi4⟩)
set_option maxHeartbeats 1000000 in
theorem rd_count_2 {g : xe_G} {m0 : Nat} {q : Nat → Nat} {z : Nat × Nat} {I : rI} {R : rR} {M : mi_H} {n2 : Nat} {l2 : Nat} (hR : RS g m0 q z I R M) (hi18 : I 18 = some (nI n2)) (hi26 : I 26 = some (nI l2))  (hn2 : n2 ≤ 65540) : pt (mT g) 198 [.ref m0, .int 2] M (fun v M' => (∃  (I' : rI) (R' : rR), v = some (.int (nI l2)) ∧ RS g m0 q z I' R' M' ∧ eqI [0] I I' ∧ eqR [] R R' ∧ I' 0 = some 0)) := by
  refine pt_in (b := mb_198 g) rfl (fun kf => ?_)
  show pl (mT g) kf (mb_198 g).2 (0, [(0, .ref m0), (1, .int 2)], [], M) _
  have hEI : eqI [0] I I := eqI.rf
  have hER : eqR [] R R := eqR.rf
  refine ps_st (S' := (1, [(0, .ref m0), (1, .int 2)], [.ref m0], M)) rfl rfl rfl ?_
  refine ps_st (S' := (2, [(0, .ref m0), (1, .int 2)], [.int 0, .ref m0], M)) rfl rfl rfl ?_
  refine pr_put (j := 0) rfl hR rfl (fun M1 I2 hR3 hi4 hI5 => ?_)
  have hi6 := (hI5 18 (by decide)).trans hi18
  have hi7 := (hI5 26 (by decide)).trans hi26
  have hEI8 := hEI.put hI5 (by decide)
  show pl _ _ _ (5, [(0, .ref m0), (1, .int 2)], [], M1) _
  refine ps_st (S' := (6, [(0, .ref m0), (1, .int 2)], [.int 2], M1)) rfl rfl rfl ?_
  refine ps_if (S1 := (15, [(0, .ref m0)], [], M1)) (S2 := (9, [(0, .ref m0), (1, .int 2)], [], M1)) rfl rfl rfl (fun c_6 => ?_) (fun c_6 => ?_)
  · exact absurd (of_decide_eq_true c_6) (by decide)
  refine ps_st (S' := (10, [(0, .ref m0), (1, .int 2)], [.int 2], M1)) rfl rfl rfl ?_
  refine ps_st (S' := (12, [(0, .ref m0), (1, .int 2)], [.int 15, .int 2], M1)) rfl rfl rfl ?_
  refine ps_if2 (S1 := (20, [(0, .ref m0), (1, .int 2)], [], M1)) (S2 := (15, [(0, .ref m0)], [], M1)) rfl rfl rfl (fun c_12 => ?_) (fun c_12 => ?_)
  rotate_left
  · exact absurd (by decide) (of_decide_eq_false c_12)
  refine ps_st (S' := (21, [(0, .ref m0), (1, .int 2)], [.ref m0], M1)) rfl rfl rfl ?_
  refine pr_int (j := 18) (S' := (24, [(0, .ref m0), (1, .int 2)], [.int (nI n2)], M1)) rfl hR3 rfl hi6 rfl ?_
  refine ps_if (S1 := (29, [(0, .ref m0), (1, .int 2)], [], M1)) (S2 := (27, [(0, .ref m0), (1, .int 2)], [], M1)) rfl rfl rfl (fun c_24 => ?_) (fun c_24 => ?_)
  rotate_left
  · exact absurd ((le_nI (p := 0) (n := n2) (by decide) (by omega)).mpr (by omega)) (of_decide_eq_false c_24)
  refine ps_st (S' := (30, [(0, .ref m0), (1, .int 2)], [.int 2], M1)) rfl rfl rfl ?_
  refine ps_st (S' := (114, [(0, .ref m0), (1, .int 2)], [], M1)) rfl rfl rfl ?_
  refine ps_st (S' := (115, [(0, .ref m0), (1, .int 2)], [.ref m0], M1)) rfl rfl rfl ?_
  refine pr_int (j := 26) (S' := (118, [(0, .ref m0), (1, .int 2)], [.int (nI l2)], M1)) rfl hR3 rfl hi7 rfl ?_
  exact ps_reti rfl (⟨I2, R, rfl, hR3, hEI8, hER, hi4⟩)
set_option maxHeartbeats 1000000 in
theorem rd_count_3 {g : xe_G} {m0 : Nat} {q : Nat → Nat} {z : Nat × Nat} {I : rI} {R : rR} {M : mi_H} {n2 : Nat} {vv : Int32} (hR : RS g m0 q z I R M) (hi18 : I 18 = some (nI n2)) (hi61 : I 61 = some vv)  (hn2 : n2 ≤ 65540) : pt (mT g) 198 [.ref m0, .int 3] M (fun v M' => (∃  (I' : rI) (R' : rR), v = some (.int vv) ∧ RS g m0 q z I' R' M' ∧ eqI [0] I I' ∧ eqR [] R R' ∧ I' 0 = some 0)) := by
  refine pt_in (b := mb_198 g) rfl (fun kf => ?_)
  show pl (mT g) kf (mb_198 g).2 (0, [(0, .ref m0), (1, .int 3)], [], M) _
  have hEI : eqI [0] I I := eqI.rf
  have hER : eqR [] R R := eqR.rf
  refine ps_st (S' := (1, [(0, .ref m0), (1, .int 3)], [.ref m0], M)) rfl rfl rfl ?_
  refine ps_st (S' := (2, [(0, .ref m0), (1, .int 3)], [.int 0, .ref m0], M)) rfl rfl rfl ?_
  refine pr_put (j := 0) rfl hR rfl (fun M1 I2 hR3 hi4 hI5 => ?_)
  have hi6 := (hI5 18 (by decide)).trans hi18
  have hi7 := (hI5 61 (by decide)).trans hi61
  have hEI8 := hEI.put hI5 (by decide)
  show pl _ _ _ (5, [(0, .ref m0), (1, .int 3)], [], M1) _
  refine ps_st (S' := (6, [(0, .ref m0), (1, .int 3)], [.int 3], M1)) rfl rfl rfl ?_
  refine ps_if (S1 := (15, [(0, .ref m0)], [], M1)) (S2 := (9, [(0, .ref m0), (1, .int 3)], [], M1)) rfl rfl rfl (fun c_6 => ?_) (fun c_6 => ?_)
  · exact absurd (of_decide_eq_true c_6) (by decide)
  refine ps_st (S' := (10, [(0, .ref m0), (1, .int 3)], [.int 3], M1)) rfl rfl rfl ?_
  refine ps_st (S' := (12, [(0, .ref m0), (1, .int 3)], [.int 15, .int 3], M1)) rfl rfl rfl ?_
  refine ps_if2 (S1 := (20, [(0, .ref m0), (1, .int 3)], [], M1)) (S2 := (15, [(0, .ref m0)], [], M1)) rfl rfl rfl (fun c_12 => ?_) (fun c_12 => ?_)
  rotate_left
  · exact absurd (by decide) (of_decide_eq_false c_12)
  refine ps_st (S' := (21, [(0, .ref m0), (1, .int 3)], [.ref m0], M1)) rfl rfl rfl ?_
  refine pr_int (j := 18) (S' := (24, [(0, .ref m0), (1, .int 3)], [.int (nI n2)], M1)) rfl hR3 rfl hi6 rfl ?_
  refine ps_if (S1 := (29, [(0, .ref m0), (1, .int 3)], [], M1)) (S2 := (27, [(0, .ref m0), (1, .int 3)], [], M1)) rfl rfl rfl (fun c_24 => ?_) (fun c_24 => ?_)
  rotate_left
  · exact absurd ((le_nI (p := 0) (n := n2) (by decide) (by omega)).mpr (by omega)) (of_decide_eq_false c_24)
  refine ps_st (S' := (30, [(0, .ref m0), (1, .int 3)], [.int 3], M1)) rfl rfl rfl ?_
  refine ps_st (S' := (119, [(0, .ref m0), (1, .int 3)], [], M1)) rfl rfl rfl ?_
  refine ps_st (S' := (120, [(0, .ref m0), (1, .int 3)], [.ref m0], M1)) rfl rfl rfl ?_
  refine pr_int (j := 61) (S' := (123, [(0, .ref m0), (1, .int 3)], [.int vv], M1)) rfl hR3 rfl hi7 rfl ?_
  exact ps_reti rfl (⟨I2, R, rfl, hR3, hEI8, hER, hi4⟩)
set_option maxHeartbeats 1000000 in
theorem rd_count_4 {g : xe_G} {m0 : Nat} {q : Nat → Nat} {z : Nat × Nat} {I : rI} {R : rR} {M : mi_H} {n2 : Nat} {vv : Int32} (hR : RS g m0 q z I R M) (hi18 : I 18 = some (nI n2)) (hi71 : I 71 = some vv)  (hn2 : n2 ≤ 65540) : pt (mT g) 198 [.ref m0, .int 4] M (fun v M' => (∃  (I' : rI) (R' : rR), v = some (.int vv) ∧ RS g m0 q z I' R' M' ∧ eqI [0] I I' ∧ eqR [] R R' ∧ I' 0 = some 0)) := by
  refine pt_in (b := mb_198 g) rfl (fun kf => ?_)
  show pl (mT g) kf (mb_198 g).2 (0, [(0, .ref m0), (1, .int 4)], [], M) _
  have hEI : eqI [0] I I := eqI.rf
  have hER : eqR [] R R := eqR.rf
  refine ps_st (S' := (1, [(0, .ref m0), (1, .int 4)], [.ref m0], M)) rfl rfl rfl ?_
  refine ps_st (S' := (2, [(0, .ref m0), (1, .int 4)], [.int 0, .ref m0], M)) rfl rfl rfl ?_
  refine pr_put (j := 0) rfl hR rfl (fun M1 I2 hR3 hi4 hI5 => ?_)
  have hi6 := (hI5 18 (by decide)).trans hi18
  have hi7 := (hI5 71 (by decide)).trans hi71
  have hEI8 := hEI.put hI5 (by decide)
  show pl _ _ _ (5, [(0, .ref m0), (1, .int 4)], [], M1) _
  refine ps_st (S' := (6, [(0, .ref m0), (1, .int 4)], [.int 4], M1)) rfl rfl rfl ?_
  refine ps_if (S1 := (15, [(0, .ref m0)], [], M1)) (S2 := (9, [(0, .ref m0), (1, .int 4)], [], M1)) rfl rfl rfl (fun c_6 => ?_) (fun c_6 => ?_)
  · exact absurd (of_decide_eq_true c_6) (by decide)
  refine ps_st (S' := (10, [(0, .ref m0), (1, .int 4)], [.int 4], M1)) rfl rfl rfl ?_
  refine ps_st (S' := (12, [(0, .ref m0), (1, .int 4)], [.int 15, .int 4], M1)) rfl rfl rfl ?_
  refine ps_if2 (S1 := (20, [(0, .ref m0), (1, .int 4)], [], M1)) (S2 := (15, [(0, .ref m0)], [], M1)) rfl rfl rfl (fun c_12 => ?_) (fun c_12 => ?_)
  rotate_left
  · exact absurd (by decide) (of_decide_eq_false c_12)
  refine ps_st (S' := (21, [(0, .ref m0), (1, .int 4)], [.ref m0], M1)) rfl rfl rfl ?_
  refine pr_int (j := 18) (S' := (24, [(0, .ref m0), (1, .int 4)], [.int (nI n2)], M1)) rfl hR3 rfl hi6 rfl ?_
  refine ps_if (S1 := (29, [(0, .ref m0), (1, .int 4)], [], M1)) (S2 := (27, [(0, .ref m0), (1, .int 4)], [], M1)) rfl rfl rfl (fun c_24 => ?_) (fun c_24 => ?_)
  rotate_left
  · exact absurd ((le_nI (p := 0) (n := n2) (by decide) (by omega)).mpr (by omega)) (of_decide_eq_false c_24)
  refine ps_st (S' := (30, [(0, .ref m0), (1, .int 4)], [.int 4], M1)) rfl rfl rfl ?_
  refine ps_st (S' := (124, [(0, .ref m0), (1, .int 4)], [], M1)) rfl rfl rfl ?_
  refine ps_st (S' := (125, [(0, .ref m0), (1, .int 4)], [.ref m0], M1)) rfl rfl rfl ?_
  refine pr_int (j := 71) (S' := (128, [(0, .ref m0), (1, .int 4)], [.int vv], M1)) rfl hR3 rfl hi7 rfl ?_
  exact ps_reti rfl (⟨I2, R, rfl, hR3, hEI8, hER, hi4⟩)
set_option maxHeartbeats 1000000 in
theorem rd_count_5 {g : xe_G} {m0 : Nat} {q : Nat → Nat} {z : Nat × Nat} {I : rI} {R : rR} {M : mi_H} {n2 : Nat} {vv : Int32} (hR : RS g m0 q z I R M) (hi18 : I 18 = some (nI n2)) (hi66 : I 66 = some vv)  (hn2 : n2 ≤ 65540) : pt (mT g) 198 [.ref m0, .int 5] M (fun v M' => (∃  (I' : rI) (R' : rR), v = some (.int vv) ∧ RS g m0 q z I' R' M' ∧ eqI [0] I I' ∧ eqR [] R R' ∧ I' 0 = some 0)) := by
  refine pt_in (b := mb_198 g) rfl (fun kf => ?_)
  show pl (mT g) kf (mb_198 g).2 (0, [(0, .ref m0), (1, .int 5)], [], M) _
  have hEI : eqI [0] I I := eqI.rf
  have hER : eqR [] R R := eqR.rf
  refine ps_st (S' := (1, [(0, .ref m0), (1, .int 5)], [.ref m0], M)) rfl rfl rfl ?_
  refine ps_st (S' := (2, [(0, .ref m0), (1, .int 5)], [.int 0, .ref m0], M)) rfl rfl rfl ?_
  refine pr_put (j := 0) rfl hR rfl (fun M1 I2 hR3 hi4 hI5 => ?_)
  have hi6 := (hI5 18 (by decide)).trans hi18
  have hi7 := (hI5 66 (by decide)).trans hi66
  have hEI8 := hEI.put hI5 (by decide)
  show pl _ _ _ (5, [(0, .ref m0), (1, .int 5)], [], M1) _
  refine ps_st (S' := (6, [(0, .ref m0), (1, .int 5)], [.int 5], M1)) rfl rfl rfl ?_
  refine ps_if (S1 := (15, [(0, .ref m0)], [], M1)) (S2 := (9, [(0, .ref m0), (1, .int 5)], [], M1)) rfl rfl rfl (fun c_6 => ?_) (fun c_6 => ?_)
  · exact absurd (of_decide_eq_true c_6) (by decide)
  refine ps_st (S' := (10, [(0, .ref m0), (1, .int 5)], [.int 5], M1)) rfl rfl rfl ?_
  refine ps_st (S' := (12, [(0, .ref m0), (1, .int 5)], [.int 15, .int 5], M1)) rfl rfl rfl ?_
  refine ps_if2 (S1 := (20, [(0, .ref m0), (1, .int 5)], [], M1)) (S2 := (15, [(0, .ref m0)], [], M1)) rfl rfl rfl (fun c_12 => ?_) (fun c_12 => ?_)
  rotate_left
  · exact absurd (by decide) (of_decide_eq_false c_12)
  refine ps_st (S' := (21, [(0, .ref m0), (1, .int 5)], [.ref m0], M1)) rfl rfl rfl ?_
  refine pr_int (j := 18) (S' := (24, [(0, .ref m0), (1, .int 5)], [.int (nI n2)], M1)) rfl hR3 rfl hi6 rfl ?_
  refine ps_if (S1 := (29, [(0, .ref m0), (1, .int 5)], [], M1)) (S2 := (27, [(0, .ref m0), (1, .int 5)], [], M1)) rfl rfl rfl (fun c_24 => ?_) (fun c_24 => ?_)
  rotate_left
  · exact absurd ((le_nI (p := 0) (n := n2) (by decide) (by omega)).mpr (by omega)) (of_decide_eq_false c_24)
  refine ps_st (S' := (30, [(0, .ref m0), (1, .int 5)], [.int 5], M1)) rfl rfl rfl ?_
  refine ps_st (S' := (129, [(0, .ref m0), (1, .int 5)], [], M1)) rfl rfl rfl ?_
  refine ps_st (S' := (130, [(0, .ref m0), (1, .int 5)], [.ref m0], M1)) rfl rfl rfl ?_
  refine pr_int (j := 66) (S' := (133, [(0, .ref m0), (1, .int 5)], [.int vv], M1)) rfl hR3 rfl hi7 rfl ?_
  exact ps_reti rfl (⟨I2, R, rfl, hR3, hEI8, hER, hi4⟩)
set_option maxHeartbeats 1000000 in
theorem rd_count_6 {g : xe_G} {m0 : Nat} {q : Nat → Nat} {z : Nat × Nat} {I : rI} {R : rR} {M : mi_H} {n2 : Nat} {vv : Int32} (hR : RS g m0 q z I R M) (hi18 : I 18 = some (nI n2)) (hi58 : I 58 = some vv)  (hn2 : n2 ≤ 65540) : pt (mT g) 198 [.ref m0, .int 6] M (fun v M' => (∃  (I' : rI) (R' : rR), v = some (.int vv) ∧ RS g m0 q z I' R' M' ∧ eqI [0] I I' ∧ eqR [] R R' ∧ I' 0 = some 0)) := by
  refine pt_in (b := mb_198 g) rfl (fun kf => ?_)
  show pl (mT g) kf (mb_198 g).2 (0, [(0, .ref m0), (1, .int 6)], [], M) _
  have hEI : eqI [0] I I := eqI.rf
  have hER : eqR [] R R := eqR.rf
  refine ps_st (S' := (1, [(0, .ref m0), (1, .int 6)], [.ref m0], M)) rfl rfl rfl ?_
  refine ps_st (S' := (2, [(0, .ref m0), (1, .int 6)], [.int 0, .ref m0], M)) rfl rfl rfl ?_
  refine pr_put (j := 0) rfl hR rfl (fun M1 I2 hR3 hi4 hI5 => ?_)
  have hi6 := (hI5 18 (by decide)).trans hi18
  have hi7 := (hI5 58 (by decide)).trans hi58
  have hEI8 := hEI.put hI5 (by decide)
  show pl _ _ _ (5, [(0, .ref m0), (1, .int 6)], [], M1) _
  refine ps_st (S' := (6, [(0, .ref m0), (1, .int 6)], [.int 6], M1)) rfl rfl rfl ?_
  refine ps_if (S1 := (15, [(0, .ref m0)], [], M1)) (S2 := (9, [(0, .ref m0), (1, .int 6)], [], M1)) rfl rfl rfl (fun c_6 => ?_) (fun c_6 => ?_)
  · exact absurd (of_decide_eq_true c_6) (by decide)
  refine ps_st (S' := (10, [(0, .ref m0), (1, .int 6)], [.int 6], M1)) rfl rfl rfl ?_
  refine ps_st (S' := (12, [(0, .ref m0), (1, .int 6)], [.int 15, .int 6], M1)) rfl rfl rfl ?_
  refine ps_if2 (S1 := (20, [(0, .ref m0), (1, .int 6)], [], M1)) (S2 := (15, [(0, .ref m0)], [], M1)) rfl rfl rfl (fun c_12 => ?_) (fun c_12 => ?_)
  rotate_left
  · exact absurd (by decide) (of_decide_eq_false c_12)
  refine ps_st (S' := (21, [(0, .ref m0), (1, .int 6)], [.ref m0], M1)) rfl rfl rfl ?_
  refine pr_int (j := 18) (S' := (24, [(0, .ref m0), (1, .int 6)], [.int (nI n2)], M1)) rfl hR3 rfl hi6 rfl ?_
  refine ps_if (S1 := (29, [(0, .ref m0), (1, .int 6)], [], M1)) (S2 := (27, [(0, .ref m0), (1, .int 6)], [], M1)) rfl rfl rfl (fun c_24 => ?_) (fun c_24 => ?_)
  rotate_left
  · exact absurd ((le_nI (p := 0) (n := n2) (by decide) (by omega)).mpr (by omega)) (of_decide_eq_false c_24)
  refine ps_st (S' := (30, [(0, .ref m0), (1, .int 6)], [.int 6], M1)) rfl rfl rfl ?_
  refine ps_st (S' := (134, [(0, .ref m0), (1, .int 6)], [], M1)) rfl rfl rfl ?_
  refine ps_st (S' := (135, [(0, .ref m0), (1, .int 6)], [.ref m0], M1)) rfl rfl rfl ?_
  refine pr_int (j := 58) (S' := (138, [(0, .ref m0), (1, .int 6)], [.int vv], M1)) rfl hR3 rfl hi7 rfl ?_
  exact ps_reti rfl (⟨I2, R, rfl, hR3, hEI8, hER, hi4⟩)
set_option maxHeartbeats 1000000 in
theorem rd_count_7 {g : xe_G} {m0 : Nat} {q : Nat → Nat} {z : Nat × Nat} {I : rI} {R : rR} {M : mi_H} {n2 : Nat} {vv : Int32} (hR : RS g m0 q z I R M) (hi18 : I 18 = some (nI n2)) (hi53 : I 53 = some vv)  (hn2 : n2 ≤ 65540) : pt (mT g) 198 [.ref m0, .int 7] M (fun v M' => (∃  (I' : rI) (R' : rR), v = some (.int vv) ∧ RS g m0 q z I' R' M' ∧ eqI [0] I I' ∧ eqR [] R R' ∧ I' 0 = some 0)) := by
  refine pt_in (b := mb_198 g) rfl (fun kf => ?_)
  show pl (mT g) kf (mb_198 g).2 (0, [(0, .ref m0), (1, .int 7)], [], M) _
  have hEI : eqI [0] I I := eqI.rf
  have hER : eqR [] R R := eqR.rf
  refine ps_st (S' := (1, [(0, .ref m0), (1, .int 7)], [.ref m0], M)) rfl rfl rfl ?_
  refine ps_st (S' := (2, [(0, .ref m0), (1, .int 7)], [.int 0, .ref m0], M)) rfl rfl rfl ?_
  refine pr_put (j := 0) rfl hR rfl (fun M1 I2 hR3 hi4 hI5 => ?_)
  have hi6 := (hI5 18 (by decide)).trans hi18
  have hi7 := (hI5 53 (by decide)).trans hi53
  have hEI8 := hEI.put hI5 (by decide)
  show pl _ _ _ (5, [(0, .ref m0), (1, .int 7)], [], M1) _
  refine ps_st (S' := (6, [(0, .ref m0), (1, .int 7)], [.int 7], M1)) rfl rfl rfl ?_
  refine ps_if (S1 := (15, [(0, .ref m0)], [], M1)) (S2 := (9, [(0, .ref m0), (1, .int 7)], [], M1)) rfl rfl rfl (fun c_6 => ?_) (fun c_6 => ?_)
  · exact absurd (of_decide_eq_true c_6) (by decide)
  refine ps_st (S' := (10, [(0, .ref m0), (1, .int 7)], [.int 7], M1)) rfl rfl rfl ?_
  refine ps_st (S' := (12, [(0, .ref m0), (1, .int 7)], [.int 15, .int 7], M1)) rfl rfl rfl ?_
  refine ps_if2 (S1 := (20, [(0, .ref m0), (1, .int 7)], [], M1)) (S2 := (15, [(0, .ref m0)], [], M1)) rfl rfl rfl (fun c_12 => ?_) (fun c_12 => ?_)
  rotate_left
  · exact absurd (by decide) (of_decide_eq_false c_12)
  refine ps_st (S' := (21, [(0, .ref m0), (1, .int 7)], [.ref m0], M1)) rfl rfl rfl ?_
  refine pr_int (j := 18) (S' := (24, [(0, .ref m0), (1, .int 7)], [.int (nI n2)], M1)) rfl hR3 rfl hi6 rfl ?_
  refine ps_if (S1 := (29, [(0, .ref m0), (1, .int 7)], [], M1)) (S2 := (27, [(0, .ref m0), (1, .int 7)], [], M1)) rfl rfl rfl (fun c_24 => ?_) (fun c_24 => ?_)
  rotate_left
  · exact absurd ((le_nI (p := 0) (n := n2) (by decide) (by omega)).mpr (by omega)) (of_decide_eq_false c_24)
  refine ps_st (S' := (30, [(0, .ref m0), (1, .int 7)], [.int 7], M1)) rfl rfl rfl ?_
  refine ps_st (S' := (139, [(0, .ref m0), (1, .int 7)], [], M1)) rfl rfl rfl ?_
  refine ps_st (S' := (140, [(0, .ref m0), (1, .int 7)], [.ref m0], M1)) rfl rfl rfl ?_
  refine pr_int (j := 53) (S' := (143, [(0, .ref m0), (1, .int 7)], [.int vv], M1)) rfl hR3 rfl hi7 rfl ?_
  exact ps_reti rfl (⟨I2, R, rfl, hR3, hEI8, hER, hi4⟩)
set_option maxHeartbeats 1000000 in
theorem rd_count_12 {g : xe_G} {m0 : Nat} {q : Nat → Nat} {z : Nat × Nat} {I : rI} {R : rR} {M : mi_H} {n2 : Nat} {vv : Int32} (hR : RS g m0 q z I R M) (hi18 : I 18 = some (nI n2)) (hi65 : I 65 = some vv)  (hn2 : n2 ≤ 65540) : pt (mT g) 198 [.ref m0, .int 12] M (fun v M' => (∃  (I' : rI) (R' : rR), v = some (.int vv) ∧ RS g m0 q z I' R' M' ∧ eqI [0] I I' ∧ eqR [] R R' ∧ I' 0 = some 0)) := by
  refine pt_in (b := mb_198 g) rfl (fun kf => ?_)
  show pl (mT g) kf (mb_198 g).2 (0, [(0, .ref m0), (1, .int 12)], [], M) _
  have hEI : eqI [0] I I := eqI.rf
  have hER : eqR [] R R := eqR.rf
  refine ps_st (S' := (1, [(0, .ref m0), (1, .int 12)], [.ref m0], M)) rfl rfl rfl ?_
  refine ps_st (S' := (2, [(0, .ref m0), (1, .int 12)], [.int 0, .ref m0], M)) rfl rfl rfl ?_
  refine pr_put (j := 0) rfl hR rfl (fun M1 I2 hR3 hi4 hI5 => ?_)
  have hi6 := (hI5 18 (by decide)).trans hi18
  have hi7 := (hI5 65 (by decide)).trans hi65
  have hEI8 := hEI.put hI5 (by decide)
  show pl _ _ _ (5, [(0, .ref m0), (1, .int 12)], [], M1) _
  refine ps_st (S' := (6, [(0, .ref m0), (1, .int 12)], [.int 12], M1)) rfl rfl rfl ?_
  refine ps_if (S1 := (15, [(0, .ref m0)], [], M1)) (S2 := (9, [(0, .ref m0), (1, .int 12)], [], M1)) rfl rfl rfl (fun c_6 => ?_) (fun c_6 => ?_)
  · exact absurd (of_decide_eq_true c_6) (by decide)
  refine ps_st (S' := (10, [(0, .ref m0), (1, .int 12)], [.int 12], M1)) rfl rfl rfl ?_
  refine ps_st (S' := (12, [(0, .ref m0), (1, .int 12)], [.int 15, .int 12], M1)) rfl rfl rfl ?_
  refine ps_if2 (S1 := (20, [(0, .ref m0), (1, .int 12)], [], M1)) (S2 := (15, [(0, .ref m0)], [], M1)) rfl rfl rfl (fun c_12 => ?_) (fun c_12 => ?_)
  rotate_left
  · exact absurd (by decide) (of_decide_eq_false c_12)
  refine ps_st (S' := (21, [(0, .ref m0), (1, .int 12)], [.ref m0], M1)) rfl rfl rfl ?_
  refine pr_int (j := 18) (S' := (24, [(0, .ref m0), (1, .int 12)], [.int (nI n2)], M1)) rfl hR3 rfl hi6 rfl ?_
  refine ps_if (S1 := (29, [(0, .ref m0), (1, .int 12)], [], M1)) (S2 := (27, [(0, .ref m0), (1, .int 12)], [], M1)) rfl rfl rfl (fun c_24 => ?_) (fun c_24 => ?_)
  rotate_left
  · exact absurd ((le_nI (p := 0) (n := n2) (by decide) (by omega)).mpr (by omega)) (of_decide_eq_false c_24)
  refine ps_st (S' := (30, [(0, .ref m0), (1, .int 12)], [.int 12], M1)) rfl rfl rfl ?_
  refine ps_st (S' := (213, [(0, .ref m0), (1, .int 12)], [], M1)) rfl rfl rfl ?_
  refine ps_st (S' := (214, [(0, .ref m0), (1, .int 12)], [.ref m0], M1)) rfl rfl rfl ?_
  refine pr_int (j := 65) (S' := (217, [(0, .ref m0), (1, .int 12)], [.int vv], M1)) rfl hR3 rfl hi7 rfl ?_
  exact ps_reti rfl (⟨I2, R, rfl, hR3, hEI8, hER, hi4⟩)
set_option maxHeartbeats 1000000 in
theorem rd_count_13 {g : xe_G} {m0 : Nat} {q : Nat → Nat} {z : Nat × Nat} {I : rI} {R : rR} {M : mi_H} {n2 : Nat} {vv : Int32} (hR : RS g m0 q z I R M) (hi18 : I 18 = some (nI n2)) (hi68 : I 68 = some vv)  (hn2 : n2 ≤ 65540) : pt (mT g) 198 [.ref m0, .int 13] M (fun v M' => (∃  (I' : rI) (R' : rR), v = some (.int vv) ∧ RS g m0 q z I' R' M' ∧ eqI [0] I I' ∧ eqR [] R R' ∧ I' 0 = some 0)) := by
  refine pt_in (b := mb_198 g) rfl (fun kf => ?_)
  show pl (mT g) kf (mb_198 g).2 (0, [(0, .ref m0), (1, .int 13)], [], M) _
  have hEI : eqI [0] I I := eqI.rf
  have hER : eqR [] R R := eqR.rf
  refine ps_st (S' := (1, [(0, .ref m0), (1, .int 13)], [.ref m0], M)) rfl rfl rfl ?_
  refine ps_st (S' := (2, [(0, .ref m0), (1, .int 13)], [.int 0, .ref m0], M)) rfl rfl rfl ?_
  refine pr_put (j := 0) rfl hR rfl (fun M1 I2 hR3 hi4 hI5 => ?_)
  have hi6 := (hI5 18 (by decide)).trans hi18
  have hi7 := (hI5 68 (by decide)).trans hi68
  have hEI8 := hEI.put hI5 (by decide)
  show pl _ _ _ (5, [(0, .ref m0), (1, .int 13)], [], M1) _
  refine ps_st (S' := (6, [(0, .ref m0), (1, .int 13)], [.int 13], M1)) rfl rfl rfl ?_
  refine ps_if (S1 := (15, [(0, .ref m0)], [], M1)) (S2 := (9, [(0, .ref m0), (1, .int 13)], [], M1)) rfl rfl rfl (fun c_6 => ?_) (fun c_6 => ?_)
  · exact absurd (of_decide_eq_true c_6) (by decide)
  refine ps_st (S' := (10, [(0, .ref m0), (1, .int 13)], [.int 13], M1)) rfl rfl rfl ?_
  refine ps_st (S' := (12, [(0, .ref m0), (1, .int 13)], [.int 15, .int 13], M1)) rfl rfl rfl ?_
  refine ps_if2 (S1 := (20, [(0, .ref m0), (1, .int 13)], [], M1)) (S2 := (15, [(0, .ref m0)], [], M1)) rfl rfl rfl (fun c_12 => ?_) (fun c_12 => ?_)
  rotate_left
  · exact absurd (by decide) (of_decide_eq_false c_12)
  refine ps_st (S' := (21, [(0, .ref m0), (1, .int 13)], [.ref m0], M1)) rfl rfl rfl ?_
  refine pr_int (j := 18) (S' := (24, [(0, .ref m0), (1, .int 13)], [.int (nI n2)], M1)) rfl hR3 rfl hi6 rfl ?_
  refine ps_if (S1 := (29, [(0, .ref m0), (1, .int 13)], [], M1)) (S2 := (27, [(0, .ref m0), (1, .int 13)], [], M1)) rfl rfl rfl (fun c_24 => ?_) (fun c_24 => ?_)
  rotate_left
  · exact absurd ((le_nI (p := 0) (n := n2) (by decide) (by omega)).mpr (by omega)) (of_decide_eq_false c_24)
  refine ps_st (S' := (30, [(0, .ref m0), (1, .int 13)], [.int 13], M1)) rfl rfl rfl ?_
  refine ps_st (S' := (218, [(0, .ref m0), (1, .int 13)], [], M1)) rfl rfl rfl ?_
  refine ps_st (S' := (219, [(0, .ref m0), (1, .int 13)], [.ref m0], M1)) rfl rfl rfl ?_
  refine pr_int (j := 68) (S' := (222, [(0, .ref m0), (1, .int 13)], [.int vv], M1)) rfl hR3 rfl hi7 rfl ?_
  exact ps_reti rfl (⟨I2, R, rfl, hR3, hEI8, hER, hi4⟩)
set_option maxHeartbeats 1000000 in
theorem rd_count_14 {g : xe_G} {m0 : Nat} {q : Nat → Nat} {z : Nat × Nat} {I : rI} {R : rR} {M : mi_H} {n2 : Nat} {vv : Int32} (hR : RS g m0 q z I R M) (hi18 : I 18 = some (nI n2)) (hi69 : I 69 = some vv)  (hn2 : n2 ≤ 65540) : pt (mT g) 198 [.ref m0, .int 14] M (fun v M' => (∃  (I' : rI) (R' : rR), v = some (.int vv) ∧ RS g m0 q z I' R' M' ∧ eqI [0] I I' ∧ eqR [] R R' ∧ I' 0 = some 0)) := by
  refine pt_in (b := mb_198 g) rfl (fun kf => ?_)
  show pl (mT g) kf (mb_198 g).2 (0, [(0, .ref m0), (1, .int 14)], [], M) _
  have hEI : eqI [0] I I := eqI.rf
  have hER : eqR [] R R := eqR.rf
  refine ps_st (S' := (1, [(0, .ref m0), (1, .int 14)], [.ref m0], M)) rfl rfl rfl ?_
  refine ps_st (S' := (2, [(0, .ref m0), (1, .int 14)], [.int 0, .ref m0], M)) rfl rfl rfl ?_
  refine pr_put (j := 0) rfl hR rfl (fun M1 I2 hR3 hi4 hI5 => ?_)
  have hi6 := (hI5 18 (by decide)).trans hi18
  have hi7 := (hI5 69 (by decide)).trans hi69
  have hEI8 := hEI.put hI5 (by decide)
  show pl _ _ _ (5, [(0, .ref m0), (1, .int 14)], [], M1) _
  refine ps_st (S' := (6, [(0, .ref m0), (1, .int 14)], [.int 14], M1)) rfl rfl rfl ?_
  refine ps_if (S1 := (15, [(0, .ref m0)], [], M1)) (S2 := (9, [(0, .ref m0), (1, .int 14)], [], M1)) rfl rfl rfl (fun c_6 => ?_) (fun c_6 => ?_)
  · exact absurd (of_decide_eq_true c_6) (by decide)
  refine ps_st (S' := (10, [(0, .ref m0), (1, .int 14)], [.int 14], M1)) rfl rfl rfl ?_
  refine ps_st (S' := (12, [(0, .ref m0), (1, .int 14)], [.int 15, .int 14], M1)) rfl rfl rfl ?_
  refine ps_if2 (S1 := (20, [(0, .ref m0), (1, .int 14)], [], M1)) (S2 := (15, [(0, .ref m0)], [], M1)) rfl rfl rfl (fun c_12 => ?_) (fun c_12 => ?_)
  rotate_left
  · exact absurd (by decide) (of_decide_eq_false c_12)
  refine ps_st (S' := (21, [(0, .ref m0), (1, .int 14)], [.ref m0], M1)) rfl rfl rfl ?_
  refine pr_int (j := 18) (S' := (24, [(0, .ref m0), (1, .int 14)], [.int (nI n2)], M1)) rfl hR3 rfl hi6 rfl ?_
  refine ps_if (S1 := (29, [(0, .ref m0), (1, .int 14)], [], M1)) (S2 := (27, [(0, .ref m0), (1, .int 14)], [], M1)) rfl rfl rfl (fun c_24 => ?_) (fun c_24 => ?_)
  rotate_left
  · exact absurd ((le_nI (p := 0) (n := n2) (by decide) (by omega)).mpr (by omega)) (of_decide_eq_false c_24)
  refine ps_st (S' := (30, [(0, .ref m0), (1, .int 14)], [.int 14], M1)) rfl rfl rfl ?_
  refine ps_st (S' := (223, [(0, .ref m0), (1, .int 14)], [], M1)) rfl rfl rfl ?_
  refine ps_st (S' := (224, [(0, .ref m0), (1, .int 14)], [.ref m0], M1)) rfl rfl rfl ?_
  refine pr_int (j := 69) (S' := (227, [(0, .ref m0), (1, .int 14)], [.int vv], M1)) rfl hR3 rfl hi7 rfl ?_
  exact ps_reti rfl (⟨I2, R, rfl, hR3, hEI8, hER, hi4⟩)
set_option maxHeartbeats 1000000 in
theorem rd_count_15 {g : xe_G} {m0 : Nat} {q : Nat → Nat} {z : Nat × Nat} {I : rI} {R : rR} {M : mi_H} {n2 : Nat} {vv : Int32} (hR : RS g m0 q z I R M) (hi18 : I 18 = some (nI n2)) (hi72 : I 72 = some vv)  (hn2 : n2 ≤ 65540) : pt (mT g) 198 [.ref m0, .int 15] M (fun v M' => (∃  (I' : rI) (R' : rR), v = some (.int vv) ∧ RS g m0 q z I' R' M' ∧ eqI [0] I I' ∧ eqR [] R R' ∧ I' 0 = some 0)) := by
  refine pt_in (b := mb_198 g) rfl (fun kf => ?_)
  show pl (mT g) kf (mb_198 g).2 (0, [(0, .ref m0), (1, .int 15)], [], M) _
  have hEI : eqI [0] I I := eqI.rf
  have hER : eqR [] R R := eqR.rf
  refine ps_st (S' := (1, [(0, .ref m0), (1, .int 15)], [.ref m0], M)) rfl rfl rfl ?_
  refine ps_st (S' := (2, [(0, .ref m0), (1, .int 15)], [.int 0, .ref m0], M)) rfl rfl rfl ?_
  refine pr_put (j := 0) rfl hR rfl (fun M1 I2 hR3 hi4 hI5 => ?_)
  have hi6 := (hI5 18 (by decide)).trans hi18
  have hi7 := (hI5 72 (by decide)).trans hi72
  have hEI8 := hEI.put hI5 (by decide)
  show pl _ _ _ (5, [(0, .ref m0), (1, .int 15)], [], M1) _
  refine ps_st (S' := (6, [(0, .ref m0), (1, .int 15)], [.int 15], M1)) rfl rfl rfl ?_
  refine ps_if (S1 := (15, [(0, .ref m0)], [], M1)) (S2 := (9, [(0, .ref m0), (1, .int 15)], [], M1)) rfl rfl rfl (fun c_6 => ?_) (fun c_6 => ?_)
  · exact absurd (of_decide_eq_true c_6) (by decide)
  refine ps_st (S' := (10, [(0, .ref m0), (1, .int 15)], [.int 15], M1)) rfl rfl rfl ?_
  refine ps_st (S' := (12, [(0, .ref m0), (1, .int 15)], [.int 15, .int 15], M1)) rfl rfl rfl ?_
  refine ps_if2 (S1 := (20, [(0, .ref m0), (1, .int 15)], [], M1)) (S2 := (15, [(0, .ref m0)], [], M1)) rfl rfl rfl (fun c_12 => ?_) (fun c_12 => ?_)
  rotate_left
  · exact absurd (by decide) (of_decide_eq_false c_12)
  refine ps_st (S' := (21, [(0, .ref m0), (1, .int 15)], [.ref m0], M1)) rfl rfl rfl ?_
  refine pr_int (j := 18) (S' := (24, [(0, .ref m0), (1, .int 15)], [.int (nI n2)], M1)) rfl hR3 rfl hi6 rfl ?_
  refine ps_if (S1 := (29, [(0, .ref m0), (1, .int 15)], [], M1)) (S2 := (27, [(0, .ref m0), (1, .int 15)], [], M1)) rfl rfl rfl (fun c_24 => ?_) (fun c_24 => ?_)
  rotate_left
  · exact absurd ((le_nI (p := 0) (n := n2) (by decide) (by omega)).mpr (by omega)) (of_decide_eq_false c_24)
  refine ps_st (S' := (30, [(0, .ref m0), (1, .int 15)], [.int 15], M1)) rfl rfl rfl ?_
  refine ps_st (S' := (228, [(0, .ref m0), (1, .int 15)], [], M1)) rfl rfl rfl ?_
  refine ps_st (S' := (229, [(0, .ref m0), (1, .int 15)], [.ref m0], M1)) rfl rfl rfl ?_
  refine pr_int (j := 72) (S' := (232, [(0, .ref m0), (1, .int 15)], [.int vv], M1)) rfl hR3 rfl hi7 rfl ?_
  exact ps_reti rfl (⟨I2, R, rfl, hR3, hEI8, hER, hi4⟩)
set_option maxHeartbeats 1000000 in
theorem rd_count_8 {g : xe_G} {m0 : Nat} {q : Nat → Nat} {z : Nat × Nat} {I : rI} {R : rR} {M : mi_H} {n : Nat} {f : Nat → Int32} {n2 p1 : Nat} (hR : RS g m0 q z I R M) (hi18 : I 18 = some (nI n2)) (hi54 : I 54 = some (nI p1)) (hF : FK n f I R) (hn2 : n2 ≤ 65540) (hp1 : p1 + 8 ≤ n) : pt (mT g) 198 [.ref m0, .int 8] M (fun v M' => (∃  (I' : rI) (R' : rR), v = some (.int (nI (by2 f (4)))) ∧ RS g m0 q z I' R' M' ∧ eqI [0] I I' ∧ eqR [] R R' ∧ I' 0 = some 0)) := by
  refine pt_in (b := mb_198 g) rfl (fun kf => ?_)
  show pl (mT g) kf (mb_198 g).2 (0, [(0, .ref m0), (1, .int 8)], [], M) _
  have hEI : eqI [0] I I := eqI.rf
  have hER : eqR [] R R := eqR.rf
  have hn := hF.1
  refine ps_st (S' := (1, [(0, .ref m0), (1, .int 8)], [.ref m0], M)) rfl rfl rfl ?_
  refine ps_st (S' := (2, [(0, .ref m0), (1, .int 8)], [.int 0, .ref m0], M)) rfl rfl rfl ?_
  refine pr_put (j := 0) rfl hR rfl (fun M1 I2 hR3 hi4 hI5 => ?_)
  have hi6 := (hI5 18 (by decide)).trans hi18
  have hi7 := (hI5 54 (by decide)).trans hi54
  have hF_8 := hF.mono (pIx hI5 (by decide)) (fun _ _ => rfl)
  have hEI9 := hEI.put hI5 (by decide)
  show pl _ _ _ (5, [(0, .ref m0), (1, .int 8)], [], M1) _
  refine ps_st (S' := (6, [(0, .ref m0), (1, .int 8)], [.int 8], M1)) rfl rfl rfl ?_
  refine ps_if (S1 := (15, [(0, .ref m0)], [], M1)) (S2 := (9, [(0, .ref m0), (1, .int 8)], [], M1)) rfl rfl rfl (fun c_6 => ?_) (fun c_6 => ?_)
  · exact absurd (of_decide_eq_true c_6) (by decide)
  refine ps_st (S' := (10, [(0, .ref m0), (1, .int 8)], [.int 8], M1)) rfl rfl rfl ?_
  refine ps_st (S' := (12, [(0, .ref m0), (1, .int 8)], [.int 15, .int 8], M1)) rfl rfl rfl ?_
  refine ps_if2 (S1 := (20, [(0, .ref m0), (1, .int 8)], [], M1)) (S2 := (15, [(0, .ref m0)], [], M1)) rfl rfl rfl (fun c_12 => ?_) (fun c_12 => ?_)
  rotate_left
  · exact absurd (by decide) (of_decide_eq_false c_12)
  refine ps_st (S' := (21, [(0, .ref m0), (1, .int 8)], [.ref m0], M1)) rfl rfl rfl ?_
  refine pr_int (j := 18) (S' := (24, [(0, .ref m0), (1, .int 8)], [.int (nI n2)], M1)) rfl hR3 rfl hi6 rfl ?_
  refine ps_if (S1 := (29, [(0, .ref m0), (1, .int 8)], [], M1)) (S2 := (27, [(0, .ref m0), (1, .int 8)], [], M1)) rfl rfl rfl (fun c_24 => ?_) (fun c_24 => ?_)
  rotate_left
  · exact absurd ((le_nI (p := 0) (n := n2) (by decide) (by omega)).mpr (by omega)) (of_decide_eq_false c_24)
  refine ps_st (S' := (30, [(0, .ref m0), (1, .int 8)], [.int 8], M1)) rfl rfl rfl ?_
  refine ps_st (S' := (144, [(0, .ref m0), (1, .int 8)], [], M1)) rfl rfl rfl ?_
  refine ps_st (S' := (145, [(0, .ref m0), (1, .int 8)], [.ref m0], M1)) rfl rfl rfl ?_
  refine ps_st (S' := (146, [(0, .ref m0), (1, .int 8)], [.int 4, .ref m0], M1)) rfl rfl rfl ?_
  refine pl_call (a := [.ref m0, .int 4]) (rest := []) rfl rfl rfl (rd_u2 (n := n) (f := f) (p := 4) hR3 hF_8 (by omega)) (fun v10 M11 q12 => ?_)
  obtain ⟨rfl, rfl⟩ := q12
  show pl _ _ _ (149, [(0, .ref m0), (1, .int 8)], [.int (nI (by2 f 4))], M1) _
  have hu_146 := by2_lt f 4
  exact ps_reti rfl (⟨I2, R, rfl, hR3, hEI9, hER, hi4⟩)
set_option maxHeartbeats 1000000 in
theorem rd_count_9 {g : xe_G} {m0 : Nat} {q : Nat → Nat} {z : Nat × Nat} {I : rI} {R : rR} {M : mi_H} {n : Nat} {f : Nat → Int32} {n2 p1 : Nat} (hR : RS g m0 q z I R M) (hi18 : I 18 = some (nI n2)) (hi54 : I 54 = some (nI p1)) (hF : FK n f I R) (hn2 : n2 ≤ 65540) (hp1 : p1 + 8 ≤ n) : pt (mT g) 198 [.ref m0, .int 9] M (fun v M' => (∃  (I' : rI) (R' : rR), v = some (.int (nI (by2 f (p1 + 2)))) ∧ RS g m0 q z I' R' M' ∧ eqI [0] I I' ∧ eqR [] R R' ∧ I' 0 = some 0)) := by
  refine pt_in (b := mb_198 g) rfl (fun kf => ?_)
  show pl (mT g) kf (mb_198 g).2 (0, [(0, .ref m0), (1, .int 9)], [], M) _
  have hEI : eqI [0] I I := eqI.rf
  have hER : eqR [] R R := eqR.rf
  have hn := hF.1
  refine ps_st (S' := (1, [(0, .ref m0), (1, .int 9)], [.ref m0], M)) rfl rfl rfl ?_
  refine ps_st (S' := (2, [(0, .ref m0), (1, .int 9)], [.int 0, .ref m0], M)) rfl rfl rfl ?_
  refine pr_put (j := 0) rfl hR rfl (fun M1 I2 hR3 hi4 hI5 => ?_)
  have hi6 := (hI5 18 (by decide)).trans hi18
  have hi7 := (hI5 54 (by decide)).trans hi54
  have hF_8 := hF.mono (pIx hI5 (by decide)) (fun _ _ => rfl)
  have hEI9 := hEI.put hI5 (by decide)
  show pl _ _ _ (5, [(0, .ref m0), (1, .int 9)], [], M1) _
  refine ps_st (S' := (6, [(0, .ref m0), (1, .int 9)], [.int 9], M1)) rfl rfl rfl ?_
  refine ps_if (S1 := (15, [(0, .ref m0)], [], M1)) (S2 := (9, [(0, .ref m0), (1, .int 9)], [], M1)) rfl rfl rfl (fun c_6 => ?_) (fun c_6 => ?_)
  · exact absurd (of_decide_eq_true c_6) (by decide)
  refine ps_st (S' := (10, [(0, .ref m0), (1, .int 9)], [.int 9], M1)) rfl rfl rfl ?_
  refine ps_st (S' := (12, [(0, .ref m0), (1, .int 9)], [.int 15, .int 9], M1)) rfl rfl rfl ?_
  refine ps_if2 (S1 := (20, [(0, .ref m0), (1, .int 9)], [], M1)) (S2 := (15, [(0, .ref m0)], [], M1)) rfl rfl rfl (fun c_12 => ?_) (fun c_12 => ?_)
  rotate_left
  · exact absurd (by decide) (of_decide_eq_false c_12)
  refine ps_st (S' := (21, [(0, .ref m0), (1, .int 9)], [.ref m0], M1)) rfl rfl rfl ?_
  refine pr_int (j := 18) (S' := (24, [(0, .ref m0), (1, .int 9)], [.int (nI n2)], M1)) rfl hR3 rfl hi6 rfl ?_
  refine ps_if (S1 := (29, [(0, .ref m0), (1, .int 9)], [], M1)) (S2 := (27, [(0, .ref m0), (1, .int 9)], [], M1)) rfl rfl rfl (fun c_24 => ?_) (fun c_24 => ?_)
  rotate_left
  · exact absurd ((le_nI (p := 0) (n := n2) (by decide) (by omega)).mpr (by omega)) (of_decide_eq_false c_24)
  refine ps_st (S' := (30, [(0, .ref m0), (1, .int 9)], [.int 9], M1)) rfl rfl rfl ?_
  refine ps_st (S' := (150, [(0, .ref m0), (1, .int 9)], [], M1)) rfl rfl rfl ?_
  refine ps_st (S' := (151, [(0, .ref m0), (1, .int 9)], [.ref m0], M1)) rfl rfl rfl ?_
  refine ps_st (S' := (152, [(0, .ref m0), (1, .int 9)], [.ref m0, .ref m0], M1)) rfl rfl rfl ?_
  refine pr_int (j := 54) (S' := (155, [(0, .ref m0), (1, .int 9)], [.int (nI p1), .ref m0], M1)) rfl hR3 rfl hi7 rfl ?_
  refine ps_st (S' := (156, [(0, .ref m0), (1, .int 9)], [.int 2, .int (nI p1), .ref m0], M1)) rfl rfl rfl ?_
  refine ps_st (S' := (157, [(0, .ref m0), (1, .int 9)], [.int ((nI p1) + 2), .ref m0], M1)) rfl rfl rfl ?_
  rw [nI_add1 (p := p1) (k := 2) (x := 2) rfl (by omega)]
  show pl _ _ _ (_, [(0, .ref m0), (1, .int 9)], [.int (nI (p1 + 2)), .ref m0], M1) _
  refine pl_call (a := [.ref m0, .int (nI (p1 + 2))]) (rest := []) rfl rfl rfl (rd_u2 (n := n) (f := f) (p := (p1 + 2)) hR3 hF_8 (by omega)) (fun v10 M11 q12 => ?_)
  obtain ⟨rfl, rfl⟩ := q12
  show pl _ _ _ (160, [(0, .ref m0), (1, .int 9)], [.int (nI (by2 f (p1 + 2)))], M1) _
  have hu_157 := by2_lt f (p1 + 2)
  exact ps_reti rfl (⟨I2, R, rfl, hR3, hEI9, hER, hi4⟩)
set_option maxHeartbeats 1000000 in
theorem rd_count_10 {g : xe_G} {m0 : Nat} {q : Nat → Nat} {z : Nat × Nat} {I : rI} {R : rR} {M : mi_H} {n : Nat} {f : Nat → Int32} {n2 p1 : Nat} (hR : RS g m0 q z I R M) (hi18 : I 18 = some (nI n2)) (hi54 : I 54 = some (nI p1)) (hF : FK n f I R) (hn2 : n2 ≤ 65540) (hp1 : p1 + 8 ≤ n) : pt (mT g) 198 [.ref m0, .int 10] M (fun v M' => (∃  (I' : rI) (R' : rR), v = some (.int (nI (by2 f (p1 + 4)))) ∧ RS g m0 q z I' R' M' ∧ eqI [0] I I' ∧ eqR [] R R' ∧ I' 0 = some 0)) := by
  refine pt_in (b := mb_198 g) rfl (fun kf => ?_)
  show pl (mT g) kf (mb_198 g).2 (0, [(0, .ref m0), (1, .int 10)], [], M) _
  have hEI : eqI [0] I I := eqI.rf
  have hER : eqR [] R R := eqR.rf
  have hn := hF.1
  refine ps_st (S' := (1, [(0, .ref m0), (1, .int 10)], [.ref m0], M)) rfl rfl rfl ?_
  refine ps_st (S' := (2, [(0, .ref m0), (1, .int 10)], [.int 0, .ref m0], M)) rfl rfl rfl ?_
  refine pr_put (j := 0) rfl hR rfl (fun M1 I2 hR3 hi4 hI5 => ?_)
  have hi6 := (hI5 18 (by decide)).trans hi18
  have hi7 := (hI5 54 (by decide)).trans hi54
  have hF_8 := hF.mono (pIx hI5 (by decide)) (fun _ _ => rfl)
  have hEI9 := hEI.put hI5 (by decide)
  show pl _ _ _ (5, [(0, .ref m0), (1, .int 10)], [], M1) _
  refine ps_st (S' := (6, [(0, .ref m0), (1, .int 10)], [.int 10], M1)) rfl rfl rfl ?_
  refine ps_if (S1 := (15, [(0, .ref m0)], [], M1)) (S2 := (9, [(0, .ref m0), (1, .int 10)], [], M1)) rfl rfl rfl (fun c_6 => ?_) (fun c_6 => ?_)
  · exact absurd (of_decide_eq_true c_6) (by decide)
  refine ps_st (S' := (10, [(0, .ref m0), (1, .int 10)], [.int 10], M1)) rfl rfl rfl ?_
  refine ps_st (S' := (12, [(0, .ref m0), (1, .int 10)], [.int 15, .int 10], M1)) rfl rfl rfl ?_
  refine ps_if2 (S1 := (20, [(0, .ref m0), (1, .int 10)], [], M1)) (S2 := (15, [(0, .ref m0)], [], M1)) rfl rfl rfl (fun c_12 => ?_) (fun c_12 => ?_)
  rotate_left
  · exact absurd (by decide) (of_decide_eq_false c_12)
  refine ps_st (S' := (21, [(0, .ref m0), (1, .int 10)], [.ref m0], M1)) rfl rfl rfl ?_
  refine pr_int (j := 18) (S' := (24, [(0, .ref m0), (1, .int 10)], [.int (nI n2)], M1)) rfl hR3 rfl hi6 rfl ?_
  refine ps_if (S1 := (29, [(0, .ref m0), (1, .int 10)], [], M1)) (S2 := (27, [(0, .ref m0), (1, .int 10)], [], M1)) rfl rfl rfl (fun c_24 => ?_) (fun c_24 => ?_)
  rotate_left
  · exact absurd ((le_nI (p := 0) (n := n2) (by decide) (by omega)).mpr (by omega)) (of_decide_eq_false c_24)
  refine ps_st (S' := (30, [(0, .ref m0), (1, .int 10)], [.int 10], M1)) rfl rfl rfl ?_
  refine ps_st (S' := (161, [(0, .ref m0), (1, .int 10)], [], M1)) rfl rfl rfl ?_
  refine ps_st (S' := (162, [(0, .ref m0), (1, .int 10)], [.ref m0], M1)) rfl rfl rfl ?_
  refine ps_st (S' := (163, [(0, .ref m0), (1, .int 10)], [.ref m0, .ref m0], M1)) rfl rfl rfl ?_
  refine pr_int (j := 54) (S' := (166, [(0, .ref m0), (1, .int 10)], [.int (nI p1), .ref m0], M1)) rfl hR3 rfl hi7 rfl ?_
  refine ps_st (S' := (167, [(0, .ref m0), (1, .int 10)], [.int 4, .int (nI p1), .ref m0], M1)) rfl rfl rfl ?_
  refine ps_st (S' := (168, [(0, .ref m0), (1, .int 10)], [.int ((nI p1) + 4), .ref m0], M1)) rfl rfl rfl ?_
  rw [nI_add1 (p := p1) (k := 4) (x := 4) rfl (by omega)]
  show pl _ _ _ (_, [(0, .ref m0), (1, .int 10)], [.int (nI (p1 + 4)), .ref m0], M1) _
  refine pl_call (a := [.ref m0, .int (nI (p1 + 4))]) (rest := []) rfl rfl rfl (rd_u2 (n := n) (f := f) (p := (p1 + 4)) hR3 hF_8 (by omega)) (fun v10 M11 q12 => ?_)
  obtain ⟨rfl, rfl⟩ := q12
  show pl _ _ _ (171, [(0, .ref m0), (1, .int 10)], [.int (nI (by2 f (p1 + 4)))], M1) _
  have hu_168 := by2_lt f (p1 + 4)
  exact ps_reti rfl (⟨I2, R, rfl, hR3, hEI9, hER, hi4⟩)
set_option maxHeartbeats 1000000 in
theorem rd_count_11 {g : xe_G} {m0 : Nat} {q : Nat → Nat} {z : Nat × Nat} {I : rI} {R : rR} {M : mi_H} {n : Nat} {f : Nat → Int32} {tx : List (List Nat)} {cN : Nat} {A : Nat → Nat} {N mj : Nat} {E : List (Nat × Nat)} {n2 : Nat} (hR : RS g m0 q z I R M) (hi18 : I 18 = some (nI n2)) (hi51 : I 51 = some 0) (hi52 : I 52 = some (nI N)) (hi53 : I 53 = some (nI mj)) (hF : FK n f I R) (hY : SYT tx cN A I R) (hP : RPV f n E tx N I R) (hEP : EP f n E) (hN : N < 65536) (hmj : mj < 65536) (hn2 : n2 ≤ 65540) (hch : chX f n E N ≤ 65540) (hN1 : 1 ≤ N) (h0 : tg f E 0 = 0) : pt (mT g) 198 [.ref m0, .int 11] M (fun v M' => (∃  (I' : rI) (R' : rR), v = some (.int (nI (chX f n E N))) ∧ RS g m0 q z I' R' M' ∧ eqI [0] I I' ∧ eqR [] R R' ∧ I' 0 = some 0)) := by
  refine pt_in (b := mb_198 g) rfl (fun kf => ?_)
  show pl (mT g) kf (mb_198 g).2 (0, [(0, .ref m0), (1, .int 11)], [], M) _
  have hEI : eqI [0] I I := eqI.rf
  have hER : eqR [] R R := eqR.rf
  have hn := hF.1
  have LL : ∀ (kf : Nat), (∀ (k a : Nat) (M1 : mi_H) (I1 : rI) (R1 : rR), (RS g m0 q z I1 R1 M1) → (eqI [0] I I1) → (eqR [] R R1) → (I1 0 = some 0) → (I1 51 = some 0) → (I1 52 = some (nI N)) → (I1 53 = some (nI mj)) → (FK n f I1 R1) → (SYT tx cN A I1 R1) → (RPV f n E tx N I1 R1) → (1 ≤ k ∧ k ≤ N) → (a = chX f n E k) →  pl (mT g) kf (mb_198 g).2 (176, [(0, .ref m0), (2, .int (nI a)), (3, .int (nI k))], [], M1) (fun v M' => (∃  (I' : rI) (R' : rR), v = some (.int (nI (chX f n E N))) ∧ RS g m0 q z I' R' M' ∧ eqI [0] I I' ∧ eqR [] R R' ∧ I' 0 = some 0))) := by
    intro kf
    induction kf with
    | zero => exact (by intros; exact pl_0)
    | succ kf ih =>
      intro k a M1 I1 R1 hR1 hEI1 hER1 hl0 hl51 hl52 hl53 hF1 hY1 hP1 hk ha
      have hn := hF1.1
      have hm9 := chX_mono (f := f) (n := n) (E := E) (m := N) (k := k) hk.2
      have htl9 := tg_lt f E k
      refine ps_st1 (S' := (177, [(0, .ref m0), (2, .int (nI a)), (3, .int (nI k))], [.int (nI k)], M1)) rfl rfl rfl ?_
      refine ps_st (S' := (178, [(0, .ref m0), (2, .int (nI a)), (3, .int (nI k))], [.ref m0, .int (nI k)], M1)) rfl rfl rfl ?_
      refine pr_int (j := 52) (S' := (181, [(0, .ref m0), (2, .int (nI a)), (3, .int (nI k))], [.int (nI N), .int (nI k)], M1)) rfl hR1 rfl hl52 rfl ?_
      refine ps_if2 (S1 := (211, [(0, .ref m0), (2, .int (nI a)), (3, .int (nI k))], [], M1)) (S2 := (184, [(0, .ref m0), (2, .int (nI a)), (3, .int (nI k))], [], M1)) rfl rfl rfl (fun c_181 => ?_) (fun c_181 => ?_)
      · have c_181 : (nI N) ≤ (nI k) := of_decide_eq_true c_181
        have n_181 : N ≤ k := (le_nI (p := N) (n := k) (by omega) (by omega)).mp c_181
        refine ps_st (S' := (212, [(0, .ref m0), (2, .int (nI a)), (3, .int (nI k))], [.int (nI a)], M1)) rfl rfl rfl ?_
        exact ps_reti rfl (⟨I1, R1, by rw [ha, show k = N by omega], hR1, hEI1, hER1, hl0⟩)
      · have c_181 : ¬ ((nI N) ≤ (nI k)) := of_decide_eq_false c_181
        have n_181 : ¬ (N ≤ k) := fun h9 => c_181 ((le_nI (p := N) (n := k) (by omega) (by omega)).mpr h9)
        refine ps_st (S' := (185, [(0, .ref m0), (2, .int (nI a)), (3, .int (nI k))], [.ref m0], M1)) rfl rfl rfl ?_
        refine ps_st (S' := (186, [(0, .ref m0), (2, .int (nI a)), (3, .int (nI k))], [.int (nI k), .ref m0], M1)) rfl rfl rfl ?_
        refine pl_call (a := [.ref m0, .int (nI k)]) (rest := []) rfl rfl rfl (rd_tag (n := n) (f := f) (tx := tx) (cN := cN) (A := A) (N := N) (mj := mj) (E := E) (k := k) hR1 hl51 hl52 hl53 hF1 hY1 hP1 (hEP) (hN) (hmj) (by omega)) (fun v1 M2 q3 => ?_)
        obtain ⟨rfl, rfl⟩ := q3
        show pl _ _ _ (189, [(0, .ref m0), (2, .int (nI a)), (3, .int (nI k))], [.int (nI (tg f E k))], M1) _
        have htg_186 := tg_lt f E k
        refine ps_st (S' := (190, [(0, .ref m0), (2, .int (nI a)), (3, .int (nI k))], [.int 1, .int (nI (tg f E k))], M1)) rfl rfl rfl ?_
        refine ps_if2 (S1 := (205, [(0, .ref m0), (2, .int (nI a)), (3, .int (nI k))], [], M1)) (S2 := (193, [(0, .ref m0), (2, .int (nI a)), (3, .int (nI k))], [], M1)) rfl rfl rfl (fun c_190 => ?_) (fun c_190 => ?_)
        · have c_190 : ¬ (nI (tg f E k)) = 1 := of_decide_eq_true c_190
          have n_190 : ¬ (tg f E k = 1) := fun h9 => c_190 ((eq_nI (p := tg f E k) (n := 1) (Nat.lt_trans (tg_lt _ _ _) (by decide)) (by decide)).mpr h9)
          refine ps_st (S' := (208, [(3, .int ((nI k) + 1)), (0, .ref m0), (2, .int (nI a))], [], M1)) rfl rfl rfl ?_
          rw [nI_add1 (p := k) (k := 1) (x := 1) rfl (by omega)]
          show pl _ _ _ (_, [(3, .int (nI (k + 1))), (0, .ref m0), (2, .int (nI a))], [], M1) _
          refine ps_st (S' := (176, [(0, .ref m0), (2, .int (nI a)), (3, .int (nI (k + 1)))], [], M1)) rfl rfl rfl ?_
          exact ih (k + 1) (a) M1 I1 R1 hR1 hEI1 hER1 hl0 hl51 hl52 hl53 hF1 hY1 hP1 (by omega) (by
              show a = chX f n E k + (tX f n E k).length
              rw [tx_no (by omega), ha]
              rfl)
        · have c_190 : ¬ (¬ (nI (tg f E k)) = 1) := of_decide_eq_false c_190
          have n_190 : tg f E k = 1 := (eq_nI (p := tg f E k) (n := 1) (Nat.lt_trans (tg_lt _ _ _) (by decide)) (by decide)).mp (Decidable.not_not.mp c_190)
          have hm8 := chX_mono (f := f) (n := n) (E := E) (m := N) (k := k + 1) (by omega)
          have hm7 : chX f n E (k + 1) = chX f n E k + (tX f n E k).length := rfl
          refine ps_st (S' := (194, [(0, .ref m0), (2, .int (nI a)), (3, .int (nI k))], [.int (nI a)], M1)) rfl rfl rfl ?_
          refine ps_st (S' := (195, [(0, .ref m0), (2, .int (nI a)), (3, .int (nI k))], [.ref m0, .int (nI a)], M1)) rfl rfl rfl ?_
          refine ps_st (S' := (196, [(0, .ref m0), (2, .int (nI a)), (3, .int (nI k))], [.ref m0, .ref m0, .int (nI a)], M1)) rfl rfl rfl ?_
          refine ps_st (S' := (197, [(0, .ref m0), (2, .int (nI a)), (3, .int (nI k))], [.int (nI k), .ref m0, .ref m0, .int (nI a)], M1)) rfl rfl rfl ?_
          refine pl_call (a := [.ref m0, .int (nI k)]) (rest := [.ref m0, .int (nI a)]) rfl rfl rfl (rd_symOf (n := n) (f := f) (tx := tx) (cN := cN) (A := A) (N := N) (mj := mj) (E := E) (k := k) hR1 hl51 hl52 hl53 hF1 hY1 hP1 (hEP) (hN) (hmj) (by omega)) (fun v4 M5 q6 => ?_)
          obtain ⟨s7, q197_s, rfl, rfl⟩ := q6
          show pl _ _ _ (200, [(0, .ref m0), (2, .int (nI a)), (3, .int (nI k))], [.int (nI s7), .ref m0, .int (nI a)], M1) _
          have hsl_197 := q197_s.1
          have htl_197 := hY1.1.2.2.1
          refine pl_call (a := [.ref m0, .int (nI s7)]) (rest := [.int (nI a)]) rfl rfl rfl (rd_length (tx := tx) (cN := cN) (A := A) (s := s7) (l := (tX f n E k)) hR1 hY1 (q197_s)) (fun v8 M9 q10 => ?_)
          obtain ⟨rfl, rfl⟩ := q10
          show pl _ _ _ (203, [(0, .ref m0), (2, .int (nI a)), (3, .int (nI k))], [.int (nI ((tX f n E k).length)), .int (nI a)], M1) _
          refine ps_st (S' := (204, [(0, .ref m0), (2, .int (nI a)), (3, .int (nI k))], [.int ((nI a) + (nI ((tX f n E k).length)))], M1)) rfl rfl rfl ?_
          rw [nI_add1 (p := a) (k := (tX f n E k).length) (x := (nI ((tX f n E k).length))) rfl (by omega)]
          show pl _ _ _ (_, [(0, .ref m0), (2, .int (nI a)), (3, .int (nI k))], [.int (nI (a + (tX f n E k).length))], M1) _
          refine ps_st (S' := (205, [(0, .ref m0), (2, .int (nI (a + (tX f n E k).length))), (3, .int (nI k))], [], M1)) rfl rfl rfl ?_
          refine ps_st (S' := (208, [(3, .int ((nI k) + 1)), (0, .ref m0), (2, .int (nI (a + (tX f n E k).length)))], [], M1)) rfl rfl rfl ?_
          rw [nI_add1 (p := k) (k := 1) (x := 1) rfl (by omega)]
          show pl _ _ _ (_, [(3, .int (nI (k + 1))), (0, .ref m0), (2, .int (nI (a + (tX f n E k).length)))], [], M1) _
          refine ps_st (S' := (176, [(0, .ref m0), (2, .int (nI (a + (tX f n E k).length))), (3, .int (nI (k + 1)))], [], M1)) rfl rfl rfl ?_
          exact ih (k + 1) (a + (tX f n E k).length) M1 I1 R1 hR1 hEI1 hER1 hl0 hl51 hl52 hl53 hF1 hY1 hP1 (by omega) (by
              rw [ha]
              rfl)
  refine ps_st (S' := (1, [(0, .ref m0), (1, .int 11)], [.ref m0], M)) rfl rfl rfl ?_
  refine ps_st (S' := (2, [(0, .ref m0), (1, .int 11)], [.int 0, .ref m0], M)) rfl rfl rfl ?_
  refine pr_put (j := 0) rfl hR rfl (fun M11 I12 hR13 hi14 hI15 => ?_)
  have hi16 := (hI15 18 (by decide)).trans hi18
  have hi17 := (hI15 51 (by decide)).trans hi51
  have hi19 := (hI15 52 (by decide)).trans hi52
  have hi20 := (hI15 53 (by decide)).trans hi53
  have hF_21 := hF.mono (pIx hI15 (by decide)) (fun _ _ => rfl)
  have hY_22 := hY.mono (pIx hI15 (by decide)) (fun _ _ => rfl)
  have hP_23 := hP.mono (pIx hI15 (by decide)) (fun _ _ => rfl)
  have hEI24 := hEI.put hI15 (by decide)
  show pl _ _ _ (5, [(0, .ref m0), (1, .int 11)], [], M11) _
  refine ps_st (S' := (6, [(0, .ref m0), (1, .int 11)], [.int 11], M11)) rfl rfl rfl ?_
  refine ps_if (S1 := (15, [(0, .ref m0)], [], M11)) (S2 := (9, [(0, .ref m0), (1, .int 11)], [], M11)) rfl rfl rfl (fun c_6 => ?_) (fun c_6 => ?_)
  · exact absurd (of_decide_eq_true c_6) (by decide)
  refine ps_st (S' := (10, [(0, .ref m0), (1, .int 11)], [.int 11], M11)) rfl rfl rfl ?_
  refine ps_st (S' := (12, [(0, .ref m0), (1, .int 11)], [.int 15, .int 11], M11)) rfl rfl rfl ?_
  refine ps_if2 (S1 := (20, [(0, .ref m0), (1, .int 11)], [], M11)) (S2 := (15, [(0, .ref m0)], [], M11)) rfl rfl rfl (fun c_12 => ?_) (fun c_12 => ?_)
  rotate_left
  · exact absurd (by decide) (of_decide_eq_false c_12)
  refine ps_st (S' := (21, [(0, .ref m0), (1, .int 11)], [.ref m0], M11)) rfl rfl rfl ?_
  refine pr_int (j := 18) (S' := (24, [(0, .ref m0), (1, .int 11)], [.int (nI n2)], M11)) rfl hR13 rfl hi16 rfl ?_
  refine ps_if (S1 := (29, [(0, .ref m0), (1, .int 11)], [], M11)) (S2 := (27, [(0, .ref m0), (1, .int 11)], [], M11)) rfl rfl rfl (fun c_24 => ?_) (fun c_24 => ?_)
  rotate_left
  · exact absurd ((le_nI (p := 0) (n := n2) (by decide) (by omega)).mpr (by omega)) (of_decide_eq_false c_24)
  refine ps_st (S' := (30, [(0, .ref m0), (1, .int 11)], [.int 11], M11)) rfl rfl rfl ?_
  refine ps_st (S' := (172, [(0, .ref m0), (1, .int 11)], [], M11)) rfl rfl rfl ?_
  refine ps_st (S' := (173, [(0, .ref m0), (1, .int 11)], [.int 0], M11)) rfl rfl rfl ?_
  refine ps_st (S' := (174, [(2, .int 0), (0, .ref m0), (1, .int 11)], [], M11)) rfl rfl rfl ?_
  refine ps_st (S' := (175, [(2, .int 0), (0, .ref m0), (1, .int 11)], [.int 1], M11)) rfl rfl rfl ?_
  refine ps_st (S' := (176, [(0, .ref m0), (2, .int 0), (3, .int 1)], [], M11)) rfl rfl rfl ?_
  exact (LL kf) (1) (0) M11 I12 R hR13 hEI24 hER hi14 hi17 hi19 hi20 hF_21 hY_22 hP_23 (⟨Nat.le_refl _, hN1⟩) (by
      show 0 = 0 + (tX f n E 0).length
      rw [tx_no (by omega)]
      rfl)
theorem rd_count {g : xe_G} {m0 : Nat} {q : Nat → Nat} {z : Nat × Nat} {I : rI} {R : rR} {M : mi_H} {ko : Option (Nat × (Nat → Int32))} {w : Int32} (hR : RS g m0 q z I R M) (hK : KPR ko I R) (h0 : ¬ w < 0) (h1 : w ≤ 15) : pt (mT g) 198 [.ref m0, .int w] M (fun v M' => ∃ (I' : rI) (R' : rR), v = some (.int (cnK ko w)) ∧ RS g m0 q z I' R' M' ∧ eqI [0] I I' ∧ eqR [] R R' ∧ I' 0 = some 0) := by
  cases ko with
  | none =>
    obtain ⟨kn, k1, k2⟩ := hK
    exact rd_count0 hR k1 h0 h1 k2
  | some r =>
    obtain ⟨h2, h3, -, -, tx, cN, A, E, N, mj, p1, pF, pM, pA, k1, k2, k3, k4, k5, k6, k7, rfl, rfl, m1, m2, m3, m4, m5, m6, m7, m8, ⟨a1, a2, a3, -⟩, bc, K, m9, m10, g1, g2, g3, g4, g5, g6, g7⟩ := hK
    rw [cnK_is k7 m9 m10]
    have hcl := s_class_in m7
    have hN := by2_lt r.2 8
    have hpl := whole_in k7
    obtain ⟨hEP, hN1⟩ := EP_of hpl
    have hc0 := tg_0 hpl
    obtain ⟨ew, hw⟩ := i32_16 h0 h1
    obtain ⟨j, ej⟩ : ∃ j, j = w.toNatClampNeg := ⟨_, rfl⟩
    rw [← ej] at ew hw ⊢
    subst ew
    have hp1 : p1 + 8 ≤ r.1 := by omega
    have hch := chX_all hpl
    have hch2 := chL_pool hpl
    rcases (show j = 0 ∨ j = 1 ∨ j = 2 ∨ j = 3 ∨ j = 4 ∨ j = 5 ∨ j = 6 ∨ j = 7 ∨ j = 8 ∨ j = 9 ∨ j = 10 ∨ j = 11 ∨ j = 12 ∨ j = 13 ∨ j = 14 ∨ j = 15 by omega) with rfl | rfl | rfl | rfl | rfl | rfl | rfl | rfl | rfl | rfl | rfl | rfl | rfl | rfl | rfl | rfl
    · exact rd_count_0 hR h2 k5 h3
    · exact rd_count_1 hR h2 m1 h3
    · exact rd_count_2 hR h2 m2 h3
    · exact rd_count_3 hR h2 a3 h3
    · exact rd_count_4 hR h2 g1 h3
    · exact rd_count_5 hR h2 g2 h3
    · exact rd_count_6 hR h2 a2 h3
    · exact rd_count_7 hR h2 k6 h3
    · exact rd_count_8 hR h2 a1 k1 h3 hp1
    · exact rd_count_9 hR h2 a1 k1 h3 hp1
    · exact rd_count_10 hR h2 a1 k1 h3 hp1
    · exact (by rw [show cnV r.2 r.1 E p1 pF pM bc K 11 = nI (chX r.2 r.1 E (by2 r.2 8)) from by rw [hch]; rfl]; exact rd_count_11 hR h2 k4 k5 k6 k1 k2 k3 hEP hN (by2_lt _ _) h3 (by have := k1.1; omega) hN1 hc0)
    · exact rd_count_12 hR h2 g3 h3
    · exact rd_count_13 hR h2 g4 h3
    · exact rd_count_14 hR h2 g5 h3
    · exact rd_count_15 hR h2 g7 h3
