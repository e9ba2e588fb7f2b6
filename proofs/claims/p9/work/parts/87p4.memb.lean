set_option maxHeartbeats 1000000 in
theorem rd_memberB {g : xe_G} {m0 : Nat} {q : Nat → Nat} {z : Nat × Nat} {I : rI} {R : rR} {M : mi_H} {t i x : Int32} (hR : RS g m0 q z I R M)   (hbad : x < 0 ∨ ¬ x ≤ 9) : pt (mT g) 223 [.ref m0, .int t, .int i, .int x] M (fun v M' => (∃  (I' : rI) (R' : rR), v = some (.int 0) ∧ RS g m0 q z I' R' M' ∧ eqI [0] I I' ∧ eqR [] R R' ∧ I' 0 = some 1)) := by
  refine pt_in (b := mb_223 g) rfl (fun kf => ?_)
  show pl (mT g) kf (mb_223 g).2 (0, [(0, .ref m0), (1, .int t), (2, .int i), (3, .int x)], [], M) _
  have hEI : eqI [0] I I := eqI.rf
  have hER : eqR [] R R := eqR.rf
  refine ps_st (S' := (1, [(0, .ref m0), (1, .int t), (2, .int i), (3, .int x)], [.ref m0], M)) rfl rfl rfl ?_
  refine ps_st (S' := (2, [(0, .ref m0), (1, .int t), (2, .int i), (3, .int x)], [.int 0, .ref m0], M)) rfl rfl rfl ?_
  refine pr_put (j := 0) rfl hR rfl (fun M1 I2 hR3 hi4 hI5 => ?_)
  have hEI6 := hEI.put hI5 (by decide)
  show pl _ _ _ (5, [(0, .ref m0), (1, .int t), (2, .int i), (3, .int x)], [], M1) _
  refine ps_st (S' := (6, [(0, .ref m0), (1, .int t), (2, .int i), (3, .int x)], [.int x], M1)) rfl rfl rfl ?_
  refine ps_if (S1 := (15, [(0, .ref m0)], [], M1)) (S2 := (9, [(0, .ref m0), (1, .int t), (2, .int i), (3, .int x)], [], M1)) rfl rfl rfl (fun c_6 => ?_) (fun c_6 => ?_)
  · have c_6 : x < 0 := of_decide_eq_true c_6
    refine ps_st (S' := (16, [(0, .ref m0)], [.ref m0], M1)) rfl rfl rfl ?_
    refine pl_call (a := [.ref m0]) (rest := []) rfl rfl rfl (rd_bad hR3) (fun v7 M8 q9 => ?_)
    obtain ⟨I10, R11, rfl, hR12, hI13, hX14, hi15⟩ := q9
    have hEI16 := hEI6.tr hI13 (by decide)
    have hER17 := hER.tr hX14 (by decide)
    show pl _ _ _ (19, [(0, .ref m0)], [.int 0], M8) _
    exact ps_ret rfl rfl (⟨I10, R11, rfl, hR12, hEI16, hER17, hi15⟩)
  · have c_6 : ¬ (x < 0) := of_decide_eq_false c_6
    refine ps_st (S' := (10, [(0, .ref m0), (1, .int t), (2, .int i), (3, .int x)], [.int x], M1)) rfl rfl rfl ?_
    refine ps_st (S' := (12, [(0, .ref m0), (1, .int t), (2, .int i), (3, .int x)], [.int 9, .int x], M1)) rfl rfl rfl ?_
    refine ps_if2 (S1 := (20, [(0, .ref m0), (1, .int t), (2, .int i), (3, .int x)], [], M1)) (S2 := (15, [(0, .ref m0)], [], M1)) rfl rfl rfl (fun c_12 => ?_) (fun c_12 => ?_)
    · have c_12 : x ≤ 9 := of_decide_eq_true c_12
      exact absurd hbad (fun h9 => h9.elim c_6 (fun h8 => h8 c_12))
    · have c_12 : ¬ (x ≤ 9) := of_decide_eq_false c_12
      refine ps_st (S' := (16, [(0, .ref m0)], [.ref m0], M1)) rfl rfl rfl ?_
      refine pl_call (a := [.ref m0]) (rest := []) rfl rfl rfl (rd_bad hR3) (fun v18 M19 q20 => ?_)
      obtain ⟨I21, R22, rfl, hR23, hI24, hX25, hi26⟩ := q20
      have hEI27 := hEI6.tr hI24 (by decide)
      have hER28 := hER.tr hX25 (by decide)
      show pl _ _ _ (19, [(0, .ref m0)], [.int 0], M19) _
      exact ps_ret rfl rfl (⟨I21, R22, rfl, hR23, hEI27, hER28, hi26⟩)
set_option maxHeartbeats 1000000 in
theorem rd_member0 {g : xe_G} {m0 : Nat} {q : Nat → Nat} {z : Nat × Nat} {I : rI} {R : rR} {M : mi_H} {kn t i x : Int32} (hR : RS g m0 q z I R M) (hi18 : I 18 = some kn)  (h0 : ¬ x < 0) (h1 : x ≤ 9) (hk : kn < 0) : pt (mT g) 223 [.ref m0, .int t, .int i, .int x] M (fun v M' => (∃  (I' : rI) (R' : rR), v = some (.int (-1)) ∧ RS g m0 q z I' R' M' ∧ eqI [0] I I' ∧ eqR [] R R' ∧ I' 0 = some 0)) := by
  refine pt_in (b := mb_223 g) rfl (fun kf => ?_)
  show pl (mT g) kf (mb_223 g).2 (0, [(0, .ref m0), (1, .int t), (2, .int i), (3, .int x)], [], M) _
  have hEI : eqI [0] I I := eqI.rf
  have hER : eqR [] R R := eqR.rf
  refine ps_st (S' := (1, [(0, .ref m0), (1, .int t), (2, .int i), (3, .int x)], [.ref m0], M)) rfl rfl rfl ?_
  refine ps_st (S' := (2, [(0, .ref m0), (1, .int t), (2, .int i), (3, .int x)], [.int 0, .ref m0], M)) rfl rfl rfl ?_
  refine pr_put (j := 0) rfl hR rfl (fun M1 I2 hR3 hi4 hI5 => ?_)
  have hi6 := (hI5 18 (by decide)).trans hi18
  have hEI7 := hEI.put hI5 (by decide)
  show pl _ _ _ (5, [(0, .ref m0), (1, .int t), (2, .int i), (3, .int x)], [], M1) _
  refine ps_st (S' := (6, [(0, .ref m0), (1, .int t), (2, .int i), (3, .int x)], [.int x], M1)) rfl rfl rfl ?_
  refine ps_if (S1 := (15, [(0, .ref m0)], [], M1)) (S2 := (9, [(0, .ref m0), (1, .int t), (2, .int i), (3, .int x)], [], M1)) rfl rfl rfl (fun c_6 => ?_) (fun c_6 => ?_)
  · exact absurd (of_decide_eq_true c_6) (h0)
  refine ps_st (S' := (10, [(0, .ref m0), (1, .int t), (2, .int i), (3, .int x)], [.int x], M1)) rfl rfl rfl ?_
  refine ps_st (S' := (12, [(0, .ref m0), (1, .int t), (2, .int i), (3, .int x)], [.int 9, .int x], M1)) rfl rfl rfl ?_
  refine ps_if2 (S1 := (20, [(0, .ref m0), (1, .int t), (2, .int i), (3, .int x)], [], M1)) (S2 := (15, [(0, .ref m0)], [], M1)) rfl rfl rfl (fun c_12 => ?_) (fun c_12 => ?_)
  rotate_left
  · exact absurd (h1) (of_decide_eq_false c_12)
  refine ps_st (S' := (21, [(0, .ref m0), (1, .int t), (2, .int i), (3, .int x)], [.ref m0], M1)) rfl rfl rfl ?_
  refine pr_int (j := 18) (S' := (24, [(0, .ref m0), (1, .int t), (2, .int i), (3, .int x)], [.int kn], M1)) rfl hR3 rfl hi6 rfl ?_
  refine ps_if (S1 := (50, [], [], M1)) (S2 := (27, [(0, .ref m0), (1, .int t), (2, .int i), (3, .int x)], [], M1)) rfl rfl rfl (fun c_24 => ?_) (fun c_24 => ?_)
  rotate_left
  · exact absurd (hk) (of_decide_eq_false c_24)
  refine ps_st (S' := (51, [], [.int (-1)], M1)) rfl rfl rfl ?_
  exact ps_ret rfl rfl (⟨I2, R, rfl, hR3, hEI7, hER, hi4⟩)
set_option maxHeartbeats 1000000 in
theorem rd_memberNF {g : xe_G} {m0 : Nat} {q : Nat → Nat} {z : Nat × Nat} {I : rI} {R : rR} {M : mi_H} {n2 l : Nat} {t i x : Int32} (hR : RS g m0 q z I R M) (hi18 : I 18 = some (nI n2)) (hi25 : I 25 = some (nI l))  (h0 : ¬ x < 0) (h1 : x ≤ 9) (hn2 : n2 ≤ 65540) (ht : t = 0) (hi : i < 0 ∨ nI l ≤ i) : pt (mT g) 223 [.ref m0, .int t, .int i, .int x] M (fun v M' => (∃  (I' : rI) (R' : rR), v = some (.int (-1)) ∧ RS g m0 q z I' R' M' ∧ eqI [0] I I' ∧ eqR [] R R' ∧ I' 0 = some 0)) := by
  refine pt_in (b := mb_223 g) rfl (fun kf => ?_)
  show pl (mT g) kf (mb_223 g).2 (0, [(0, .ref m0), (1, .int t), (2, .int i), (3, .int x)], [], M) _
  have hEI : eqI [0] I I := eqI.rf
  have hER : eqR [] R R := eqR.rf
  refine ps_st (S' := (1, [(0, .ref m0), (1, .int t), (2, .int i), (3, .int x)], [.ref m0], M)) rfl rfl rfl ?_
  refine ps_st (S' := (2, [(0, .ref m0), (1, .int t), (2, .int i), (3, .int x)], [.int 0, .ref m0], M)) rfl rfl rfl ?_
  refine pr_put (j := 0) rfl hR rfl (fun M1 I2 hR3 hi4 hI5 => ?_)
  have hi6 := (hI5 18 (by decide)).trans hi18
  have hi7 := (hI5 25 (by decide)).trans hi25
  have hEI8 := hEI.put hI5 (by decide)
  show pl _ _ _ (5, [(0, .ref m0), (1, .int t), (2, .int i), (3, .int x)], [], M1) _
  refine ps_st (S' := (6, [(0, .ref m0), (1, .int t), (2, .int i), (3, .int x)], [.int x], M1)) rfl rfl rfl ?_
  refine ps_if (S1 := (15, [(0, .ref m0)], [], M1)) (S2 := (9, [(0, .ref m0), (1, .int t), (2, .int i), (3, .int x)], [], M1)) rfl rfl rfl (fun c_6 => ?_) (fun c_6 => ?_)
  · exact absurd (of_decide_eq_true c_6) (h0)
  refine ps_st (S' := (10, [(0, .ref m0), (1, .int t), (2, .int i), (3, .int x)], [.int x], M1)) rfl rfl rfl ?_
  refine ps_st (S' := (12, [(0, .ref m0), (1, .int t), (2, .int i), (3, .int x)], [.int 9, .int x], M1)) rfl rfl rfl ?_
  refine ps_if2 (S1 := (20, [(0, .ref m0), (1, .int t), (2, .int i), (3, .int x)], [], M1)) (S2 := (15, [(0, .ref m0)], [], M1)) rfl rfl rfl (fun c_12 => ?_) (fun c_12 => ?_)
  rotate_left
  · exact absurd (h1) (of_decide_eq_false c_12)
  refine ps_st (S' := (21, [(0, .ref m0), (1, .int t), (2, .int i), (3, .int x)], [.ref m0], M1)) rfl rfl rfl ?_
  refine pr_int (j := 18) (S' := (24, [(0, .ref m0), (1, .int t), (2, .int i), (3, .int x)], [.int (nI n2)], M1)) rfl hR3 rfl hi6 rfl ?_
  refine ps_if (S1 := (50, [], [], M1)) (S2 := (27, [(0, .ref m0), (1, .int t), (2, .int i), (3, .int x)], [], M1)) rfl rfl rfl (fun c_24 => ?_) (fun c_24 => ?_)
  · exact absurd (of_decide_eq_true c_24) (nI_n0 (by omega))
  refine ps_st (S' := (28, [(0, .ref m0), (1, .int t), (2, .int i), (3, .int x)], [.int i], M1)) rfl rfl rfl ?_
  refine ps_if (S1 := (50, [], [], M1)) (S2 := (31, [(0, .ref m0), (1, .int t), (2, .int i), (3, .int x)], [], M1)) rfl rfl rfl (fun c_28 => ?_) (fun c_28 => ?_)
  · have c_28 : i < 0 := of_decide_eq_true c_28
    refine ps_st (S' := (51, [], [.int (-1)], M1)) rfl rfl rfl ?_
    exact ps_ret rfl rfl (⟨I2, R, rfl, hR3, hEI8, hER, hi4⟩)
  · have c_28 : ¬ (i < 0) := of_decide_eq_false c_28
    refine ps_st (S' := (32, [(0, .ref m0), (1, .int t), (2, .int i), (3, .int x)], [.int i], M1)) rfl rfl rfl ?_
    refine ps_st (S' := (33, [(0, .ref m0), (1, .int t), (2, .int i), (3, .int x)], [.int t, .int i], M1)) rfl rfl rfl ?_
    refine ps_if (S1 := (43, [(0, .ref m0), (1, .int t), (2, .int i), (3, .int x)], [.int i], M1)) (S2 := (36, [(0, .ref m0), (1, .int t), (2, .int i), (3, .int x)], [.int i], M1)) rfl rfl rfl (fun c_33 => ?_) (fun c_33 => ?_)
    rotate_left
    · exact absurd (ht) (of_decide_eq_false c_33)
    refine ps_st (S' := (44, [(0, .ref m0), (1, .int t), (2, .int i), (3, .int x)], [.ref m0, .int i], M1)) rfl rfl rfl ?_
    refine pr_int (j := 25) (S' := (47, [(0, .ref m0), (1, .int t), (2, .int i), (3, .int x)], [.int (nI l), .int i], M1)) rfl hR3 rfl hi7 rfl ?_
    refine ps_if2 (S1 := (52, [(0, .ref m0), (1, .int t), (2, .int i), (3, .int x)], [], M1)) (S2 := (50, [], [], M1)) rfl rfl rfl (fun c_47 => ?_) (fun c_47 => ?_)
    · exact absurd (of_decide_eq_true c_47) (Int32.not_lt.mpr (hi.resolve_left c_28))
    refine ps_st (S' := (51, [], [.int (-1)], M1)) rfl rfl rfl ?_
    exact ps_ret rfl rfl (⟨I2, R, rfl, hR3, hEI8, hER, hi4⟩)
set_option maxHeartbeats 1000000 in
theorem rd_memberNM {g : xe_G} {m0 : Nat} {q : Nat → Nat} {z : Nat × Nat} {I : rI} {R : rR} {M : mi_H} {n2 l : Nat} {t i x : Int32} (hR : RS g m0 q z I R M) (hi18 : I 18 = some (nI n2)) (hi26 : I 26 = some (nI l))  (h0 : ¬ x < 0) (h1 : x ≤ 9) (hn2 : n2 ≤ 65540) (ht : ¬ t = 0) (hi : i < 0 ∨ nI l ≤ i) : pt (mT g) 223 [.ref m0, .int t, .int i, .int x] M (fun v M' => (∃  (I' : rI) (R' : rR), v = some (.int (-1)) ∧ RS g m0 q z I' R' M' ∧ eqI [0] I I' ∧ eqR [] R R' ∧ I' 0 = some 0)) := by
  refine pt_in (b := mb_223 g) rfl (fun kf => ?_)
  show pl (mT g) kf (mb_223 g).2 (0, [(0, .ref m0), (1, .int t), (2, .int i), (3, .int x)], [], M) _
  have hEI : eqI [0] I I := eqI.rf
  have hER : eqR [] R R := eqR.rf
  refine ps_st (S' := (1, [(0, .ref m0), (1, .int t), (2, .int i), (3, .int x)], [.ref m0], M)) rfl rfl rfl ?_
  refine ps_st (S' := (2, [(0, .ref m0), (1, .int t), (2, .int i), (3, .int x)], [.int 0, .ref m0], M)) rfl rfl rfl ?_
  refine pr_put (j := 0) rfl hR rfl (fun M1 I2 hR3 hi4 hI5 => ?_)
  have hi6 := (hI5 18 (by decide)).trans hi18
  have hi7 := (hI5 26 (by decide)).trans hi26
  have hEI8 := hEI.put hI5 (by decide)
  show pl _ _ _ (5, [(0, .ref m0), (1, .int t), (2, .int i), (3, .int x)], [], M1) _
  refine ps_st (S' := (6, [(0, .ref m0), (1, .int t), (2, .int i), (3, .int x)], [.int x], M1)) rfl rfl rfl ?_
  refine ps_if (S1 := (15, [(0, .ref m0)], [], M1)) (S2 := (9, [(0, .ref m0), (1, .int t), (2, .int i), (3, .int x)], [], M1)) rfl rfl rfl (fun c_6 => ?_) (fun c_6 => ?_)
  · exact absurd (of_decide_eq_true c_6) (h0)
  refine ps_st (S' := (10, [(0, .ref m0), (1, .int t), (2, .int i), (3, .int x)], [.int x], M1)) rfl rfl rfl ?_
  refine ps_st (S' := (12, [(0, .ref m0), (1, .int t), (2, .int i), (3, .int x)], [.int 9, .int x], M1)) rfl rfl rfl ?_
  refine ps_if2 (S1 := (20, [(0, .ref m0), (1, .int t), (2, .int i), (3, .int x)], [], M1)) (S2 := (15, [(0, .ref m0)], [], M1)) rfl rfl rfl (fun c_12 => ?_) (fun c_12 => ?_)
  rotate_left
  · exact absurd (h1) (of_decide_eq_false c_12)
  refine ps_st (S' := (21, [(0, .ref m0), (1, .int t), (2, .int i), (3, .int x)], [.ref m0], M1)) rfl rfl rfl ?_
  refine pr_int (j := 18) (S' := (24, [(0, .ref m0), (1, .int t), (2, .int i), (3, .int x)], [.int (nI n2)], M1)) rfl hR3 rfl hi6 rfl ?_
  refine ps_if (S1 := (50, [], [], M1)) (S2 := (27, [(0, .ref m0), (1, .int t), (2, .int i), (3, .int x)], [], M1)) rfl rfl rfl (fun c_24 => ?_) (fun c_24 => ?_)
  · exact absurd (of_decide_eq_true c_24) (nI_n0 (by omega))
  refine ps_st (S' := (28, [(0, .ref m0), (1, .int t), (2, .int i), (3, .int x)], [.int i], M1)) rfl rfl rfl ?_
  refine ps_if (S1 := (50, [], [], M1)) (S2 := (31, [(0, .ref m0), (1, .int t), (2, .int i), (3, .int x)], [], M1)) rfl rfl rfl (fun c_28 => ?_) (fun c_28 => ?_)
  · have c_28 : i < 0 := of_decide_eq_true c_28
    refine ps_st (S' := (51, [], [.int (-1)], M1)) rfl rfl rfl ?_
    exact ps_ret rfl rfl (⟨I2, R, rfl, hR3, hEI8, hER, hi4⟩)
  · have c_28 : ¬ (i < 0) := of_decide_eq_false c_28
    refine ps_st (S' := (32, [(0, .ref m0), (1, .int t), (2, .int i), (3, .int x)], [.int i], M1)) rfl rfl rfl ?_
    refine ps_st (S' := (33, [(0, .ref m0), (1, .int t), (2, .int i), (3, .int x)], [.int t, .int i], M1)) rfl rfl rfl ?_
    refine ps_if (S1 := (43, [(0, .ref m0), (1, .int t), (2, .int i), (3, .int x)], [.int i], M1)) (S2 := (36, [(0, .ref m0), (1, .int t), (2, .int i), (3, .int x)], [.int i], M1)) rfl rfl rfl (fun c_33 => ?_) (fun c_33 => ?_)
    · exact absurd (of_decide_eq_true c_33) (ht)
    refine ps_st (S' := (37, [(0, .ref m0), (1, .int t), (2, .int i), (3, .int x)], [.ref m0, .int i], M1)) rfl rfl rfl ?_
    refine pr_int (j := 26) (S' := (40, [(0, .ref m0), (1, .int t), (2, .int i), (3, .int x)], [.int (nI l), .int i], M1)) rfl hR3 rfl hi7 rfl ?_
    refine ps_st (S' := (47, [(0, .ref m0), (1, .int t), (2, .int i), (3, .int x)], [.int (nI l), .int i], M1)) rfl rfl rfl ?_
    refine ps_if2 (S1 := (52, [(0, .ref m0), (1, .int t), (2, .int i), (3, .int x)], [], M1)) (S2 := (50, [], [], M1)) rfl rfl rfl (fun c_47 => ?_) (fun c_47 => ?_)
    · exact absurd (of_decide_eq_true c_47) (Int32.not_lt.mpr (hi.resolve_left c_28))
    refine ps_st (S' := (51, [], [.int (-1)], M1)) rfl rfl rfl ?_
    exact ps_ret rfl rfl (⟨I2, R, rfl, hR3, hEI8, hER, hi4⟩)
set_option maxHeartbeats 1000000 in
theorem rd_memberF0 {g : xe_G} {m0 : Nat} {q : Nat → Nat} {z : Nat × Nat} {I : rI} {R : rR} {M : mi_H} {f : Nat → Int32} {n n2 k : Nat} {E : List (Nat × Nat)} {B : List Nat} {t : Int32} (hR : RS g m0 q z I R M) (hi18 : I 18 = some (nI n2)) (hi25 : I 25 = some (nI B.length)) (hQ : FQ f n E B 0 B.length I R) (hn2 : n2 ≤ 65540) (ht : t = 0) (hk : k < B.length) (hBl : B.length < 65536) : pt (mT g) 223 [.ref m0, .int t, .int (nI k), .int 0] M (fun v M' => (∃  (I' : rI) (R' : rR), v = some (.int (nI (by2 f (B.getD k 0)))) ∧ RS g m0 q z I' R' M' ∧ eqI [0] I I' ∧ eqR [] R R' ∧ I' 0 = some 0)) := by
  refine pt_in (b := mb_223 g) rfl (fun kf => ?_)
  show pl (mT g) kf (mb_223 g).2 (0, [(0, .ref m0), (1, .int t), (2, .int (nI k)), (3, .int 0)], [], M) _
  have hEI : eqI [0] I I := eqI.rf
  have hER : eqR [] R R := eqR.rf
  have g9 := hQ k hk
  rw [Nat.zero_add] at g9
  refine ps_st (S' := (1, [(0, .ref m0), (1, .int t), (2, .int (nI k)), (3, .int 0)], [.ref m0], M)) rfl rfl rfl ?_
  refine ps_st (S' := (2, [(0, .ref m0), (1, .int t), (2, .int (nI k)), (3, .int 0)], [.int 0, .ref m0], M)) rfl rfl rfl ?_
  refine pr_put (j := 0) rfl hR rfl (fun M1 I2 hR3 hi4 hI5 => ?_)
  have hi6 := (hI5 18 (by decide)).trans hi18
  have hi7 := (hI5 25 (by decide)).trans hi25
  have hQ_8 := hQ.mono (pIx hI5 (by decide)) (fun _ _ => rfl)
  have hEI9 := hEI.put hI5 (by decide)
  show pl _ _ _ (5, [(0, .ref m0), (1, .int t), (2, .int (nI k)), (3, .int 0)], [], M1) _
  refine ps_st (S' := (6, [(0, .ref m0), (1, .int t), (2, .int (nI k)), (3, .int 0)], [.int 0], M1)) rfl rfl rfl ?_
  refine ps_if (S1 := (15, [(0, .ref m0)], [], M1)) (S2 := (9, [(0, .ref m0), (1, .int t), (2, .int (nI k)), (3, .int 0)], [], M1)) rfl rfl rfl (fun c_6 => ?_) (fun c_6 => ?_)
  · exact absurd (of_decide_eq_true c_6) (by decide)
  refine ps_st (S' := (10, [(0, .ref m0), (1, .int t), (2, .int (nI k)), (3, .int 0)], [.int 0], M1)) rfl rfl rfl ?_
  refine ps_st (S' := (12, [(0, .ref m0), (1, .int t), (2, .int (nI k)), (3, .int 0)], [.int 9, .int 0], M1)) rfl rfl rfl ?_
  refine ps_if2 (S1 := (20, [(0, .ref m0), (1, .int t), (2, .int (nI k)), (3, .int 0)], [], M1)) (S2 := (15, [(0, .ref m0)], [], M1)) rfl rfl rfl (fun c_12 => ?_) (fun c_12 => ?_)
  rotate_left
  · exact absurd (by decide) (of_decide_eq_false c_12)
  refine ps_st (S' := (21, [(0, .ref m0), (1, .int t), (2, .int (nI k)), (3, .int 0)], [.ref m0], M1)) rfl rfl rfl ?_
  refine pr_int (j := 18) (S' := (24, [(0, .ref m0), (1, .int t), (2, .int (nI k)), (3, .int 0)], [.int (nI n2)], M1)) rfl hR3 rfl hi6 rfl ?_
  refine ps_if (S1 := (50, [], [], M1)) (S2 := (27, [(0, .ref m0), (1, .int t), (2, .int (nI k)), (3, .int 0)], [], M1)) rfl rfl rfl (fun c_24 => ?_) (fun c_24 => ?_)
  · exact absurd (of_decide_eq_true c_24) (nI_n0 (by omega))
  refine ps_st (S' := (28, [(0, .ref m0), (1, .int t), (2, .int (nI k)), (3, .int 0)], [.int (nI k)], M1)) rfl rfl rfl ?_
  refine ps_if (S1 := (50, [], [], M1)) (S2 := (31, [(0, .ref m0), (1, .int t), (2, .int (nI k)), (3, .int 0)], [], M1)) rfl rfl rfl (fun c_28 => ?_) (fun c_28 => ?_)
  · exact absurd (of_decide_eq_true c_28) (nI_n0 (by omega))
  refine ps_st (S' := (32, [(0, .ref m0), (1, .int t), (2, .int (nI k)), (3, .int 0)], [.int (nI k)], M1)) rfl rfl rfl ?_
  refine ps_st (S' := (33, [(0, .ref m0), (1, .int t), (2, .int (nI k)), (3, .int 0)], [.int t, .int (nI k)], M1)) rfl rfl rfl ?_
  refine ps_if (S1 := (43, [(0, .ref m0), (1, .int t), (2, .int (nI k)), (3, .int 0)], [.int (nI k)], M1)) (S2 := (36, [(0, .ref m0), (1, .int t), (2, .int (nI k)), (3, .int 0)], [.int (nI k)], M1)) rfl rfl rfl (fun c_33 => ?_) (fun c_33 => ?_)
  rotate_left
  · exact absurd (ht) (of_decide_eq_false c_33)
  refine ps_st (S' := (44, [(0, .ref m0), (1, .int t), (2, .int (nI k)), (3, .int 0)], [.ref m0, .int (nI k)], M1)) rfl rfl rfl ?_
  refine pr_int (j := 25) (S' := (47, [(0, .ref m0), (1, .int t), (2, .int (nI k)), (3, .int 0)], [.int (nI B.length), .int (nI k)], M1)) rfl hR3 rfl hi7 rfl ?_
  refine ps_if2 (S1 := (52, [(0, .ref m0), (1, .int t), (2, .int (nI k)), (3, .int 0)], [], M1)) (S2 := (50, [], [], M1)) rfl rfl rfl (fun c_47 => ?_) (fun c_47 => ?_)
  rotate_left
  · exact absurd ((lt_nI (p := k) (n := B.length) (by omega) (by omega)).mpr hk) (of_decide_eq_false c_47)
  refine ps_st (S' := (53, [(0, .ref m0), (1, .int t), (2, .int (nI k)), (3, .int 0)], [.int 0], M1)) rfl rfl rfl ?_
  refine ps_st (S' := (88, [(0, .ref m0), (1, .int t), (2, .int (nI k)), (3, .int 0)], [], M1)) rfl rfl rfl ?_
  refine ps_st (S' := (89, [(0, .ref m0), (1, .int t), (2, .int (nI k)), (3, .int 0)], [.int t], M1)) rfl rfl rfl ?_
  refine ps_if (S1 := (101, [(0, .ref m0), (1, .int t), (2, .int (nI k)), (3, .int 0)], [], M1)) (S2 := (92, [(0, .ref m0), (1, .int t), (2, .int (nI k)), (3, .int 0)], [], M1)) rfl rfl rfl (fun c_89 => ?_) (fun c_89 => ?_)
  rotate_left
  · exact absurd (ht) (of_decide_eq_false c_89)
  refine ps_st (S' := (102, [(0, .ref m0), (1, .int t), (2, .int (nI k)), (3, .int 0)], [.ref m0], M1)) rfl rfl rfl ?_
  refine pr_ref (j := 27) (S' := (105, [(0, .ref m0), (1, .int t), (2, .int (nI k)), (3, .int 0)], [.ref (q 27)], M1)) rfl hR3 rfl rfl ?_
  refine ps_st (S' := (106, [(0, .ref m0), (1, .int t), (2, .int (nI k)), (3, .int 0)], [.int (nI k), .ref (q 27)], M1)) rfl rfl rfl ?_
  refine pr_ld (a := 27) (j := k) (y := (nI (by2 f (B.getD k 0)))) (S' := (107, [], [.int (nI (by2 f (B.getD k 0)))], M1)) rfl hR3 rfl (by omega) (fun _ => g9.1) rfl (fun i1_106 => ?_)
  exact ps_reti rfl (⟨I2, R, rfl, hR3, hEI9, hER, hi4⟩)
set_option maxHeartbeats 1000000 in
theorem rd_memberF1 {g : xe_G} {m0 : Nat} {q : Nat → Nat} {z : Nat × Nat} {I : rI} {R : rR} {M : mi_H} {f : Nat → Int32} {n n2 k : Nat} {E : List (Nat × Nat)} {B : List Nat} {t : Int32} (hR : RS g m0 q z I R M) (hi18 : I 18 = some (nI n2)) (hi25 : I 25 = some (nI B.length)) (hQ : FQ f n E B 0 B.length I R) (hn2 : n2 ≤ 65540) (ht : t = 0) (hk : k < B.length) (hBl : B.length < 65536) : pt (mT g) 223 [.ref m0, .int t, .int (nI k), .int 1] M (fun v M' => (∃  (I' : rI) (R' : rR), v = some (.int (nI (by2 f (B.getD k 0 + 2)))) ∧ RS g m0 q z I' R' M' ∧ eqI [0] I I' ∧ eqR [] R R' ∧ I' 0 = some 0)) := by
  refine pt_in (b := mb_223 g) rfl (fun kf => ?_)
  show pl (mT g) kf (mb_223 g).2 (0, [(0, .ref m0), (1, .int t), (2, .int (nI k)), (3, .int 1)], [], M) _
  have hEI : eqI [0] I I := eqI.rf
  have hER : eqR [] R R := eqR.rf
  have g9 := hQ k hk
  rw [Nat.zero_add] at g9
  refine ps_st (S' := (1, [(0, .ref m0), (1, .int t), (2, .int (nI k)), (3, .int 1)], [.ref m0], M)) rfl rfl rfl ?_
  refine ps_st (S' := (2, [(0, .ref m0), (1, .int t), (2, .int (nI k)), (3, .int 1)], [.int 0, .ref m0], M)) rfl rfl rfl ?_
  refine pr_put (j := 0) rfl hR rfl (fun M1 I2 hR3 hi4 hI5 => ?_)
  have hi6 := (hI5 18 (by decide)).trans hi18
  have hi7 := (hI5 25 (by decide)).trans hi25
  have hQ_8 := hQ.mono (pIx hI5 (by decide)) (fun _ _ => rfl)
  have hEI9 := hEI.put hI5 (by decide)
  show pl _ _ _ (5, [(0, .ref m0), (1, .int t), (2, .int (nI k)), (3, .int 1)], [], M1) _
  refine ps_st (S' := (6, [(0, .ref m0), (1, .int t), (2, .int (nI k)), (3, .int 1)], [.int 1], M1)) rfl rfl rfl ?_
  refine ps_if (S1 := (15, [(0, .ref m0)], [], M1)) (S2 := (9, [(0, .ref m0), (1, .int t), (2, .int (nI k)), (3, .int 1)], [], M1)) rfl rfl rfl (fun c_6 => ?_) (fun c_6 => ?_)
  · exact absurd (of_decide_eq_true c_6) (by decide)
  refine ps_st (S' := (10, [(0, .ref m0), (1, .int t), (2, .int (nI k)), (3, .int 1)], [.int 1], M1)) rfl rfl rfl ?_
  refine ps_st (S' := (12, [(0, .ref m0), (1, .int t), (2, .int (nI k)), (3, .int 1)], [.int 9, .int 1], M1)) rfl rfl rfl ?_
  refine ps_if2 (S1 := (20, [(0, .ref m0), (1, .int t), (2, .int (nI k)), (3, .int 1)], [], M1)) (S2 := (15, [(0, .ref m0)], [], M1)) rfl rfl rfl (fun c_12 => ?_) (fun c_12 => ?_)
  rotate_left
  · exact absurd (by decide) (of_decide_eq_false c_12)
  refine ps_st (S' := (21, [(0, .ref m0), (1, .int t), (2, .int (nI k)), (3, .int 1)], [.ref m0], M1)) rfl rfl rfl ?_
  refine pr_int (j := 18) (S' := (24, [(0, .ref m0), (1, .int t), (2, .int (nI k)), (3, .int 1)], [.int (nI n2)], M1)) rfl hR3 rfl hi6 rfl ?_
  refine ps_if (S1 := (50, [], [], M1)) (S2 := (27, [(0, .ref m0), (1, .int t), (2, .int (nI k)), (3, .int 1)], [], M1)) rfl rfl rfl (fun c_24 => ?_) (fun c_24 => ?_)
  · exact absurd (of_decide_eq_true c_24) (nI_n0 (by omega))
  refine ps_st (S' := (28, [(0, .ref m0), (1, .int t), (2, .int (nI k)), (3, .int 1)], [.int (nI k)], M1)) rfl rfl rfl ?_
  refine ps_if (S1 := (50, [], [], M1)) (S2 := (31, [(0, .ref m0), (1, .int t), (2, .int (nI k)), (3, .int 1)], [], M1)) rfl rfl rfl (fun c_28 => ?_) (fun c_28 => ?_)
  · exact absurd (of_decide_eq_true c_28) (nI_n0 (by omega))
  refine ps_st (S' := (32, [(0, .ref m0), (1, .int t), (2, .int (nI k)), (3, .int 1)], [.int (nI k)], M1)) rfl rfl rfl ?_
  refine ps_st (S' := (33, [(0, .ref m0), (1, .int t), (2, .int (nI k)), (3, .int 1)], [.int t, .int (nI k)], M1)) rfl rfl rfl ?_
  refine ps_if (S1 := (43, [(0, .ref m0), (1, .int t), (2, .int (nI k)), (3, .int 1)], [.int (nI k)], M1)) (S2 := (36, [(0, .ref m0), (1, .int t), (2, .int (nI k)), (3, .int 1)], [.int (nI k)], M1)) rfl rfl rfl (fun c_33 => ?_) (fun c_33 => ?_)
  rotate_left
  · exact absurd (ht) (of_decide_eq_false c_33)
  refine ps_st (S' := (44, [(0, .ref m0), (1, .int t), (2, .int (nI k)), (3, .int 1)], [.ref m0, .int (nI k)], M1)) rfl rfl rfl ?_
  refine pr_int (j := 25) (S' := (47, [(0, .ref m0), (1, .int t), (2, .int (nI k)), (3, .int 1)], [.int (nI B.length), .int (nI k)], M1)) rfl hR3 rfl hi7 rfl ?_
  refine ps_if2 (S1 := (52, [(0, .ref m0), (1, .int t), (2, .int (nI k)), (3, .int 1)], [], M1)) (S2 := (50, [], [], M1)) rfl rfl rfl (fun c_47 => ?_) (fun c_47 => ?_)
  rotate_left
  · exact absurd ((lt_nI (p := k) (n := B.length) (by omega) (by omega)).mpr hk) (of_decide_eq_false c_47)
  refine ps_st (S' := (53, [(0, .ref m0), (1, .int t), (2, .int (nI k)), (3, .int 1)], [.int 1], M1)) rfl rfl rfl ?_
  refine ps_st (S' := (108, [(0, .ref m0), (1, .int t), (2, .int (nI k)), (3, .int 1)], [], M1)) rfl rfl rfl ?_
  refine ps_st (S' := (109, [(0, .ref m0), (1, .int t), (2, .int (nI k)), (3, .int 1)], [.int t], M1)) rfl rfl rfl ?_
  refine ps_if (S1 := (121, [(0, .ref m0), (1, .int t), (2, .int (nI k)), (3, .int 1)], [], M1)) (S2 := (112, [(0, .ref m0), (1, .int t), (2, .int (nI k)), (3, .int 1)], [], M1)) rfl rfl rfl (fun c_109 => ?_) (fun c_109 => ?_)
  rotate_left
  · exact absurd (ht) (of_decide_eq_false c_109)
  refine ps_st (S' := (122, [(0, .ref m0), (1, .int t), (2, .int (nI k)), (3, .int 1)], [.ref m0], M1)) rfl rfl rfl ?_
  refine pr_ref (j := 32) (S' := (125, [(0, .ref m0), (1, .int t), (2, .int (nI k)), (3, .int 1)], [.ref (q 32)], M1)) rfl hR3 rfl rfl ?_
  refine ps_st (S' := (126, [(0, .ref m0), (1, .int t), (2, .int (nI k)), (3, .int 1)], [.int (nI k), .ref (q 32)], M1)) rfl rfl rfl ?_
  refine pr_ld (a := 32) (j := k) (y := (nI (by2 f (B.getD k 0 + 2)))) (S' := (127, [], [.int (nI (by2 f (B.getD k 0 + 2)))], M1)) rfl hR3 rfl (by omega) (fun _ => g9.2.2.2.1) rfl (fun i1_126 => ?_)
  exact ps_reti rfl (⟨I2, R, rfl, hR3, hEI9, hER, hi4⟩)
set_option maxHeartbeats 1000000 in
theorem rd_memberF2 {g : xe_G} {m0 : Nat} {q : Nat → Nat} {z : Nat × Nat} {I : rI} {R : rR} {M : mi_H} {f : Nat → Int32} {n n2 k : Nat} {E : List (Nat × Nat)} {B : List Nat} {t : Int32} (hR : RS g m0 q z I R M) (hi18 : I 18 = some (nI n2)) (hi25 : I 25 = some (nI B.length)) (hQ : FQ f n E B 0 B.length I R) (hn2 : n2 ≤ 65540) (ht : t = 0) (hk : k < B.length) (hBl : B.length < 65536) : pt (mT g) 223 [.ref m0, .int t, .int (nI k), .int 2] M (fun v M' => (∃  (I' : rI) (R' : rR), v = some (.int (nI (by2 f (B.getD k 0 + 4)))) ∧ RS g m0 q z I' R' M' ∧ eqI [0] I I' ∧ eqR [] R R' ∧ I' 0 = some 0)) := by
  refine pt_in (b := mb_223 g) rfl (fun kf => ?_)
  show pl (mT g) kf (mb_223 g).2 (0, [(0, .ref m0), (1, .int t), (2, .int (nI k)), (3, .int 2)], [], M) _
  have hEI : eqI [0] I I := eqI.rf
  have hER : eqR [] R R := eqR.rf
  have g9 := hQ k hk
  rw [Nat.zero_add] at g9
  refine ps_st (S' := (1, [(0, .ref m0), (1, .int t), (2, .int (nI k)), (3, .int 2)], [.ref m0], M)) rfl rfl rfl ?_
  refine ps_st (S' := (2, [(0, .ref m0), (1, .int t), (2, .int (nI k)), (3, .int 2)], [.int 0, .ref m0], M)) rfl rfl rfl ?_
  refine pr_put (j := 0) rfl hR rfl (fun M1 I2 hR3 hi4 hI5 => ?_)
  have hi6 := (hI5 18 (by decide)).trans hi18
  have hi7 := (hI5 25 (by decide)).trans hi25
  have hQ_8 := hQ.mono (pIx hI5 (by decide)) (fun _ _ => rfl)
  have hEI9 := hEI.put hI5 (by decide)
  show pl _ _ _ (5, [(0, .ref m0), (1, .int t), (2, .int (nI k)), (3, .int 2)], [], M1) _
  refine ps_st (S' := (6, [(0, .ref m0), (1, .int t), (2, .int (nI k)), (3, .int 2)], [.int 2], M1)) rfl rfl rfl ?_
  refine ps_if (S1 := (15, [(0, .ref m0)], [], M1)) (S2 := (9, [(0, .ref m0), (1, .int t), (2, .int (nI k)), (3, .int 2)], [], M1)) rfl rfl rfl (fun c_6 => ?_) (fun c_6 => ?_)
  · exact absurd (of_decide_eq_true c_6) (by decide)
  refine ps_st (S' := (10, [(0, .ref m0), (1, .int t), (2, .int (nI k)), (3, .int 2)], [.int 2], M1)) rfl rfl rfl ?_
  refine ps_st (S' := (12, [(0, .ref m0), (1, .int t), (2, .int (nI k)), (3, .int 2)], [.int 9, .int 2], M1)) rfl rfl rfl ?_
  refine ps_if2 (S1 := (20, [(0, .ref m0), (1, .int t), (2, .int (nI k)), (3, .int 2)], [], M1)) (S2 := (15, [(0, .ref m0)], [], M1)) rfl rfl rfl (fun c_12 => ?_) (fun c_12 => ?_)
  rotate_left
  · exact absurd (by decide) (of_decide_eq_false c_12)
  refine ps_st (S' := (21, [(0, .ref m0), (1, .int t), (2, .int (nI k)), (3, .int 2)], [.ref m0], M1)) rfl rfl rfl ?_
  refine pr_int (j := 18) (S' := (24, [(0, .ref m0), (1, .int t), (2, .int (nI k)), (3, .int 2)], [.int (nI n2)], M1)) rfl hR3 rfl hi6 rfl ?_
  refine ps_if (S1 := (50, [], [], M1)) (S2 := (27, [(0, .ref m0), (1, .int t), (2, .int (nI k)), (3, .int 2)], [], M1)) rfl rfl rfl (fun c_24 => ?_) (fun c_24 => ?_)
  · exact absurd (of_decide_eq_true c_24) (nI_n0 (by omega))
  refine ps_st (S' := (28, [(0, .ref m0), (1, .int t), (2, .int (nI k)), (3, .int 2)], [.int (nI k)], M1)) rfl rfl rfl ?_
  refine ps_if (S1 := (50, [], [], M1)) (S2 := (31, [(0, .ref m0), (1, .int t), (2, .int (nI k)), (3, .int 2)], [], M1)) rfl rfl rfl (fun c_28 => ?_) (fun c_28 => ?_)
  · exact absurd (of_decide_eq_true c_28) (nI_n0 (by omega))
  refine ps_st (S' := (32, [(0, .ref m0), (1, .int t), (2, .int (nI k)), (3, .int 2)], [.int (nI k)], M1)) rfl rfl rfl ?_
  refine ps_st (S' := (33, [(0, .ref m0), (1, .int t), (2, .int (nI k)), (3, .int 2)], [.int t, .int (nI k)], M1)) rfl rfl rfl ?_
  refine ps_if (S1 := (43, [(0, .ref m0), (1, .int t), (2, .int (nI k)), (3, .int 2)], [.int (nI k)], M1)) (S2 := (36, [(0, .ref m0), (1, .int t), (2, .int (nI k)), (3, .int 2)], [.int (nI k)], M1)) rfl rfl rfl (fun c_33 => ?_) (fun c_33 => ?_)
  rotate_left
  · exact absurd (ht) (of_decide_eq_false c_33)
  refine ps_st (S' := (44, [(0, .ref m0), (1, .int t), (2, .int (nI k)), (3, .int 2)], [.ref m0, .int (nI k)], M1)) rfl rfl rfl ?_
  refine pr_int (j := 25) (S' := (47, [(0, .ref m0), (1, .int t), (2, .int (nI k)), (3, .int 2)], [.int (nI B.length), .int (nI k)], M1)) rfl hR3 rfl hi7 rfl ?_
  refine ps_if2 (S1 := (52, [(0, .ref m0), (1, .int t), (2, .int (nI k)), (3, .int 2)], [], M1)) (S2 := (50, [], [], M1)) rfl rfl rfl (fun c_47 => ?_) (fun c_47 => ?_)
  rotate_left
  · exact absurd ((lt_nI (p := k) (n := B.length) (by omega) (by omega)).mpr hk) (of_decide_eq_false c_47)
  refine ps_st (S' := (53, [(0, .ref m0), (1, .int t), (2, .int (nI k)), (3, .int 2)], [.int 2], M1)) rfl rfl rfl ?_
  refine ps_st (S' := (128, [(0, .ref m0), (1, .int t), (2, .int (nI k)), (3, .int 2)], [], M1)) rfl rfl rfl ?_
  refine ps_st (S' := (129, [(0, .ref m0), (1, .int t), (2, .int (nI k)), (3, .int 2)], [.int t], M1)) rfl rfl rfl ?_
  refine ps_if (S1 := (141, [(0, .ref m0), (1, .int t), (2, .int (nI k)), (3, .int 2)], [], M1)) (S2 := (132, [(0, .ref m0), (1, .int t), (2, .int (nI k)), (3, .int 2)], [], M1)) rfl rfl rfl (fun c_129 => ?_) (fun c_129 => ?_)
  rotate_left
  · exact absurd (ht) (of_decide_eq_false c_129)
  refine ps_st (S' := (142, [(0, .ref m0), (1, .int t), (2, .int (nI k)), (3, .int 2)], [.ref m0], M1)) rfl rfl rfl ?_
  refine pr_ref (j := 33) (S' := (145, [(0, .ref m0), (1, .int t), (2, .int (nI k)), (3, .int 2)], [.ref (q 33)], M1)) rfl hR3 rfl rfl ?_
  refine ps_st (S' := (146, [(0, .ref m0), (1, .int t), (2, .int (nI k)), (3, .int 2)], [.int (nI k), .ref (q 33)], M1)) rfl rfl rfl ?_
  refine pr_ld (a := 33) (j := k) (y := (nI (by2 f (B.getD k 0 + 4)))) (S' := (147, [], [.int (nI (by2 f (B.getD k 0 + 4)))], M1)) rfl hR3 rfl (by omega) (fun _ => g9.2.2.2.2) rfl (fun i1_146 => ?_)
  exact ps_reti rfl (⟨I2, R, rfl, hR3, hEI9, hER, hi4⟩)
set_option maxHeartbeats 1000000 in
theorem rd_memberF3 {g : xe_G} {m0 : Nat} {q : Nat → Nat} {z : Nat × Nat} {I : rI} {R : rR} {M : mi_H} {f : Nat → Int32} {n n2 k : Nat} {E : List (Nat × Nat)} {B : List Nat} {t : Int32} (hR : RS g m0 q z I R M) (hi18 : I 18 = some (nI n2)) (hi25 : I 25 = some (nI B.length)) (hQ : FQ f n E B 0 B.length I R) (hn2 : n2 ≤ 65540) (ht : t = 0) (hk : k < B.length) (hBl : B.length < 65536) : pt (mT g) 223 [.ref m0, .int t, .int (nI k), .int 3] M (fun v M' => (∃  (I' : rI) (R' : rR), v = some (.int (nI (fK f n E (B.getD k 0)).1)) ∧ RS g m0 q z I' R' M' ∧ eqI [0] I I' ∧ eqR [] R R' ∧ I' 0 = some 0)) := by
  refine pt_in (b := mb_223 g) rfl (fun kf => ?_)
  show pl (mT g) kf (mb_223 g).2 (0, [(0, .ref m0), (1, .int t), (2, .int (nI k)), (3, .int 3)], [], M) _
  have hEI : eqI [0] I I := eqI.rf
  have hER : eqR [] R R := eqR.rf
  have g9 := hQ k hk
  rw [Nat.zero_add] at g9
  refine ps_st (S' := (1, [(0, .ref m0), (1, .int t), (2, .int (nI k)), (3, .int 3)], [.ref m0], M)) rfl rfl rfl ?_
  refine ps_st (S' := (2, [(0, .ref m0), (1, .int t), (2, .int (nI k)), (3, .int 3)], [.int 0, .ref m0], M)) rfl rfl rfl ?_
  refine pr_put (j := 0) rfl hR rfl (fun M1 I2 hR3 hi4 hI5 => ?_)
  have hi6 := (hI5 18 (by decide)).trans hi18
  have hi7 := (hI5 25 (by decide)).trans hi25
  have hQ_8 := hQ.mono (pIx hI5 (by decide)) (fun _ _ => rfl)
  have hEI9 := hEI.put hI5 (by decide)
  show pl _ _ _ (5, [(0, .ref m0), (1, .int t), (2, .int (nI k)), (3, .int 3)], [], M1) _
  refine ps_st (S' := (6, [(0, .ref m0), (1, .int t), (2, .int (nI k)), (3, .int 3)], [.int 3], M1)) rfl rfl rfl ?_
  refine ps_if (S1 := (15, [(0, .ref m0)], [], M1)) (S2 := (9, [(0, .ref m0), (1, .int t), (2, .int (nI k)), (3, .int 3)], [], M1)) rfl rfl rfl (fun c_6 => ?_) (fun c_6 => ?_)
  · exact absurd (of_decide_eq_true c_6) (by decide)
  refine ps_st (S' := (10, [(0, .ref m0), (1, .int t), (2, .int (nI k)), (3, .int 3)], [.int 3], M1)) rfl rfl rfl ?_
  refine ps_st (S' := (12, [(0, .ref m0), (1, .int t), (2, .int (nI k)), (3, .int 3)], [.int 9, .int 3], M1)) rfl rfl rfl ?_
  refine ps_if2 (S1 := (20, [(0, .ref m0), (1, .int t), (2, .int (nI k)), (3, .int 3)], [], M1)) (S2 := (15, [(0, .ref m0)], [], M1)) rfl rfl rfl (fun c_12 => ?_) (fun c_12 => ?_)
  rotate_left
  · exact absurd (by decide) (of_decide_eq_false c_12)
  refine ps_st (S' := (21, [(0, .ref m0), (1, .int t), (2, .int (nI k)), (3, .int 3)], [.ref m0], M1)) rfl rfl rfl ?_
  refine pr_int (j := 18) (S' := (24, [(0, .ref m0), (1, .int t), (2, .int (nI k)), (3, .int 3)], [.int (nI n2)], M1)) rfl hR3 rfl hi6 rfl ?_
  refine ps_if (S1 := (50, [], [], M1)) (S2 := (27, [(0, .ref m0), (1, .int t), (2, .int (nI k)), (3, .int 3)], [], M1)) rfl rfl rfl (fun c_24 => ?_) (fun c_24 => ?_)
  · exact absurd (of_decide_eq_true c_24) (nI_n0 (by omega))
  refine ps_st (S' := (28, [(0, .ref m0), (1, .int t), (2, .int (nI k)), (3, .int 3)], [.int (nI k)], M1)) rfl rfl rfl ?_
  refine ps_if (S1 := (50, [], [], M1)) (S2 := (31, [(0, .ref m0), (1, .int t), (2, .int (nI k)), (3, .int 3)], [], M1)) rfl rfl rfl (fun c_28 => ?_) (fun c_28 => ?_)
  · exact absurd (of_decide_eq_true c_28) (nI_n0 (by omega))
  refine ps_st (S' := (32, [(0, .ref m0), (1, .int t), (2, .int (nI k)), (3, .int 3)], [.int (nI k)], M1)) rfl rfl rfl ?_
  refine ps_st (S' := (33, [(0, .ref m0), (1, .int t), (2, .int (nI k)), (3, .int 3)], [.int t, .int (nI k)], M1)) rfl rfl rfl ?_
  refine ps_if (S1 := (43, [(0, .ref m0), (1, .int t), (2, .int (nI k)), (3, .int 3)], [.int (nI k)], M1)) (S2 := (36, [(0, .ref m0), (1, .int t), (2, .int (nI k)), (3, .int 3)], [.int (nI k)], M1)) rfl rfl rfl (fun c_33 => ?_) (fun c_33 => ?_)
  rotate_left
  · exact absurd (ht) (of_decide_eq_false c_33)
  refine ps_st (S' := (44, [(0, .ref m0), (1, .int t), (2, .int (nI k)), (3, .int 3)], [.ref m0, .int (nI k)], M1)) rfl rfl rfl ?_
  refine pr_int (j := 25) (S' := (47, [(0, .ref m0), (1, .int t), (2, .int (nI k)), (3, .int 3)], [.int (nI B.length), .int (nI k)], M1)) rfl hR3 rfl hi7 rfl ?_
  refine ps_if2 (S1 := (52, [(0, .ref m0), (1, .int t), (2, .int (nI k)), (3, .int 3)], [], M1)) (S2 := (50, [], [], M1)) rfl rfl rfl (fun c_47 => ?_) (fun c_47 => ?_)
  rotate_left
  · exact absurd ((lt_nI (p := k) (n := B.length) (by omega) (by omega)).mpr hk) (of_decide_eq_false c_47)
  refine ps_st (S' := (53, [(0, .ref m0), (1, .int t), (2, .int (nI k)), (3, .int 3)], [.int 3], M1)) rfl rfl rfl ?_
  refine ps_st (S' := (148, [(0, .ref m0), (1, .int t), (2, .int (nI k)), (3, .int 3)], [], M1)) rfl rfl rfl ?_
  refine ps_st (S' := (149, [(0, .ref m0), (1, .int t), (2, .int (nI k)), (3, .int 3)], [.int t], M1)) rfl rfl rfl ?_
  refine ps_if (S1 := (161, [(0, .ref m0), (1, .int t), (2, .int (nI k)), (3, .int 3)], [], M1)) (S2 := (152, [(0, .ref m0), (1, .int t), (2, .int (nI k)), (3, .int 3)], [], M1)) rfl rfl rfl (fun c_149 => ?_) (fun c_149 => ?_)
  rotate_left
  · exact absurd (ht) (of_decide_eq_false c_149)
  refine ps_st (S' := (162, [(0, .ref m0), (1, .int t), (2, .int (nI k)), (3, .int 3)], [.ref m0], M1)) rfl rfl rfl ?_
  refine pr_ref (j := 31) (S' := (165, [(0, .ref m0), (1, .int t), (2, .int (nI k)), (3, .int 3)], [.ref (q 31)], M1)) rfl hR3 rfl rfl ?_
  refine ps_st (S' := (166, [(0, .ref m0), (1, .int t), (2, .int (nI k)), (3, .int 3)], [.int (nI k), .ref (q 31)], M1)) rfl rfl rfl ?_
  refine pr_ld (a := 31) (j := k) (y := (nI (fK f n E (B.getD k 0)).1)) (S' := (167, [], [.int (nI (fK f n E (B.getD k 0)).1)], M1)) rfl hR3 rfl (by omega) (fun _ => g9.2.2.1) rfl (fun i1_166 => ?_)
  exact ps_reti rfl (⟨I2, R, rfl, hR3, hEI9, hER, hi4⟩)
set_option maxHeartbeats 1000000 in
theorem rd_memberF4 {g : xe_G} {m0 : Nat} {q : Nat → Nat} {z : Nat × Nat} {I : rI} {R : rR} {M : mi_H} {f : Nat → Int32} {n n2 k : Nat} {E : List (Nat × Nat)} {B : List Nat} {t : Int32} (hR : RS g m0 q z I R M) (hi18 : I 18 = some (nI n2)) (hi25 : I 25 = some (nI B.length)) (hQ : FQ f n E B 0 B.length I R) (hn2 : n2 ≤ 65540) (ht : t = 0) (hk : k < B.length) (hBl : B.length < 65536) : pt (mT g) 223 [.ref m0, .int t, .int (nI k), .int 4] M (fun v M' => (∃  (I' : rI) (R' : rR), v = some (.int (nI (fK f n E (B.getD k 0)).2)) ∧ RS g m0 q z I' R' M' ∧ eqI [0] I I' ∧ eqR [] R R' ∧ I' 0 = some 0)) := by
  refine pt_in (b := mb_223 g) rfl (fun kf => ?_)
  show pl (mT g) kf (mb_223 g).2 (0, [(0, .ref m0), (1, .int t), (2, .int (nI k)), (3, .int 4)], [], M) _
  have hEI : eqI [0] I I := eqI.rf
  have hER : eqR [] R R := eqR.rf
  have g9 := hQ k hk
  rw [Nat.zero_add] at g9
  refine ps_st (S' := (1, [(0, .ref m0), (1, .int t), (2, .int (nI k)), (3, .int 4)], [.ref m0], M)) rfl rfl rfl ?_
  refine ps_st (S' := (2, [(0, .ref m0), (1, .int t), (2, .int (nI k)), (3, .int 4)], [.int 0, .ref m0], M)) rfl rfl rfl ?_
  refine pr_put (j := 0) rfl hR rfl (fun M1 I2 hR3 hi4 hI5 => ?_)
  have hi6 := (hI5 18 (by decide)).trans hi18
  have hi7 := (hI5 25 (by decide)).trans hi25
  have hQ_8 := hQ.mono (pIx hI5 (by decide)) (fun _ _ => rfl)
  have hEI9 := hEI.put hI5 (by decide)
  show pl _ _ _ (5, [(0, .ref m0), (1, .int t), (2, .int (nI k)), (3, .int 4)], [], M1) _
  refine ps_st (S' := (6, [(0, .ref m0), (1, .int t), (2, .int (nI k)), (3, .int 4)], [.int 4], M1)) rfl rfl rfl ?_
  refine ps_if (S1 := (15, [(0, .ref m0)], [], M1)) (S2 := (9, [(0, .ref m0), (1, .int t), (2, .int (nI k)), (3, .int 4)], [], M1)) rfl rfl rfl (fun c_6 => ?_) (fun c_6 => ?_)
  · exact absurd (of_decide_eq_true c_6) (by decide)
  refine ps_st (S' := (10, [(0, .ref m0), (1, .int t), (2, .int (nI k)), (3, .int 4)], [.int 4], M1)) rfl rfl rfl ?_
  refine ps_st (S' := (12, [(0, .ref m0), (1, .int t), (2, .int (nI k)), (3, .int 4)], [.int 9, .int 4], M1)) rfl rfl rfl ?_
  refine ps_if2 (S1 := (20, [(0, .ref m0), (1, .int t), (2, .int (nI k)), (3, .int 4)], [], M1)) (S2 := (15, [(0, .ref m0)], [], M1)) rfl rfl rfl (fun c_12 => ?_) (fun c_12 => ?_)
  rotate_left
  · exact absurd (by decide) (of_decide_eq_false c_12)
  refine ps_st (S' := (21, [(0, .ref m0), (1, .int t), (2, .int (nI k)), (3, .int 4)], [.ref m0], M1)) rfl rfl rfl ?_
  refine pr_int (j := 18) (S' := (24, [(0, .ref m0), (1, .int t), (2, .int (nI k)), (3, .int 4)], [.int (nI n2)], M1)) rfl hR3 rfl hi6 rfl ?_
  refine ps_if (S1 := (50, [], [], M1)) (S2 := (27, [(0, .ref m0), (1, .int t), (2, .int (nI k)), (3, .int 4)], [], M1)) rfl rfl rfl (fun c_24 => ?_) (fun c_24 => ?_)
  · exact absurd (of_decide_eq_true c_24) (nI_n0 (by omega))
  refine ps_st (S' := (28, [(0, .ref m0), (1, .int t), (2, .int (nI k)), (3, .int 4)], [.int (nI k)], M1)) rfl rfl rfl ?_
  refine ps_if (S1 := (50, [], [], M1)) (S2 := (31, [(0, .ref m0), (1, .int t), (2, .int (nI k)), (3, .int 4)], [], M1)) rfl rfl rfl (fun c_28 => ?_) (fun c_28 => ?_)
  · exact absurd (of_decide_eq_true c_28) (nI_n0 (by omega))
  refine ps_st (S' := (32, [(0, .ref m0), (1, .int t), (2, .int (nI k)), (3, .int 4)], [.int (nI k)], M1)) rfl rfl rfl ?_
  refine ps_st (S' := (33, [(0, .ref m0), (1, .int t), (2, .int (nI k)), (3, .int 4)], [.int t, .int (nI k)], M1)) rfl rfl rfl ?_
  refine ps_if (S1 := (43, [(0, .ref m0), (1, .int t), (2, .int (nI k)), (3, .int 4)], [.int (nI k)], M1)) (S2 := (36, [(0, .ref m0), (1, .int t), (2, .int (nI k)), (3, .int 4)], [.int (nI k)], M1)) rfl rfl rfl (fun c_33 => ?_) (fun c_33 => ?_)
  rotate_left
  · exact absurd (ht) (of_decide_eq_false c_33)
  refine ps_st (S' := (44, [(0, .ref m0), (1, .int t), (2, .int (nI k)), (3, .int 4)], [.ref m0, .int (nI k)], M1)) rfl rfl rfl ?_
  refine pr_int (j := 25) (S' := (47, [(0, .ref m0), (1, .int t), (2, .int (nI k)), (3, .int 4)], [.int (nI B.length), .int (nI k)], M1)) rfl hR3 rfl hi7 rfl ?_
  refine ps_if2 (S1 := (52, [(0, .ref m0), (1, .int t), (2, .int (nI k)), (3, .int 4)], [], M1)) (S2 := (50, [], [], M1)) rfl rfl rfl (fun c_47 => ?_) (fun c_47 => ?_)
  rotate_left
  · exact absurd ((lt_nI (p := k) (n := B.length) (by omega) (by omega)).mpr hk) (of_decide_eq_false c_47)
  refine ps_st (S' := (53, [(0, .ref m0), (1, .int t), (2, .int (nI k)), (3, .int 4)], [.int 4], M1)) rfl rfl rfl ?_
  refine ps_st (S' := (168, [(0, .ref m0), (1, .int t), (2, .int (nI k)), (3, .int 4)], [], M1)) rfl rfl rfl ?_
  refine ps_st (S' := (169, [(0, .ref m0), (1, .int t), (2, .int (nI k)), (3, .int 4)], [.int t], M1)) rfl rfl rfl ?_
  refine ps_if (S1 := (181, [(0, .ref m0), (1, .int t), (2, .int (nI k)), (3, .int 4)], [], M1)) (S2 := (172, [(0, .ref m0), (1, .int t), (2, .int (nI k)), (3, .int 4)], [], M1)) rfl rfl rfl (fun c_169 => ?_) (fun c_169 => ?_)
  rotate_left
  · exact absurd (ht) (of_decide_eq_false c_169)
  refine ps_st (S' := (182, [(0, .ref m0), (1, .int t), (2, .int (nI k)), (3, .int 4)], [.ref m0], M1)) rfl rfl rfl ?_
  refine pr_ref (j := 30) (S' := (185, [(0, .ref m0), (1, .int t), (2, .int (nI k)), (3, .int 4)], [.ref (q 30)], M1)) rfl hR3 rfl rfl ?_
  refine ps_st (S' := (186, [(0, .ref m0), (1, .int t), (2, .int (nI k)), (3, .int 4)], [.int (nI k), .ref (q 30)], M1)) rfl rfl rfl ?_
  refine pr_ld (a := 30) (j := k) (y := (nI (fK f n E (B.getD k 0)).2)) (S' := (187, [], [.int (nI (fK f n E (B.getD k 0)).2)], M1)) rfl hR3 rfl (by omega) (fun _ => g9.2.1) rfl (fun i1_186 => ?_)
  exact ps_reti rfl (⟨I2, R, rfl, hR3, hEI9, hER, hi4⟩)
set_option maxHeartbeats 1000000 in
theorem rd_memberF5 {g : xe_G} {m0 : Nat} {q : Nat → Nat} {z : Nat × Nat} {I : rI} {R : rR} {M : mi_H} {f : Nat → Int32} {n n2 k : Nat} {E : List (Nat × Nat)} {B : List Nat} {t : Int32} (hR : RS g m0 q z I R M) (hi18 : I 18 = some (nI n2)) (hi25 : I 25 = some (nI B.length)) (hQ : FQ f n E B 0 B.length I R) (hn2 : n2 ≤ 65540) (ht : t = 0) (hk : k < B.length) (hBl : B.length < 65536) : pt (mT g) 223 [.ref m0, .int t, .int (nI k), .int 5] M (fun v M' => (∃  (I' : rI) (R' : rR), v = some (.int 0) ∧ RS g m0 q z I' R' M' ∧ eqI [0] I I' ∧ eqR [] R R' ∧ I' 0 = some 0)) := by
  refine pt_in (b := mb_223 g) rfl (fun kf => ?_)
  show pl (mT g) kf (mb_223 g).2 (0, [(0, .ref m0), (1, .int t), (2, .int (nI k)), (3, .int 5)], [], M) _
  have hEI : eqI [0] I I := eqI.rf
  have hER : eqR [] R R := eqR.rf
  have g9 := hQ k hk
  rw [Nat.zero_add] at g9
  refine ps_st (S' := (1, [(0, .ref m0), (1, .int t), (2, .int (nI k)), (3, .int 5)], [.ref m0], M)) rfl rfl rfl ?_
  refine ps_st (S' := (2, [(0, .ref m0), (1, .int t), (2, .int (nI k)), (3, .int 5)], [.int 0, .ref m0], M)) rfl rfl rfl ?_
  refine pr_put (j := 0) rfl hR rfl (fun M1 I2 hR3 hi4 hI5 => ?_)
  have hi6 := (hI5 18 (by decide)).trans hi18
  have hi7 := (hI5 25 (by decide)).trans hi25
  have hQ_8 := hQ.mono (pIx hI5 (by decide)) (fun _ _ => rfl)
  have hEI9 := hEI.put hI5 (by decide)
  show pl _ _ _ (5, [(0, .ref m0), (1, .int t), (2, .int (nI k)), (3, .int 5)], [], M1) _
  refine ps_st (S' := (6, [(0, .ref m0), (1, .int t), (2, .int (nI k)), (3, .int 5)], [.int 5], M1)) rfl rfl rfl ?_
  refine ps_if (S1 := (15, [(0, .ref m0)], [], M1)) (S2 := (9, [(0, .ref m0), (1, .int t), (2, .int (nI k)), (3, .int 5)], [], M1)) rfl rfl rfl (fun c_6 => ?_) (fun c_6 => ?_)
  · exact absurd (of_decide_eq_true c_6) (by decide)
  refine ps_st (S' := (10, [(0, .ref m0), (1, .int t), (2, .int (nI k)), (3, .int 5)], [.int 5], M1)) rfl rfl rfl ?_
  refine ps_st (S' := (12, [(0, .ref m0), (1, .int t), (2, .int (nI k)), (3, .int 5)], [.int 9, .int 5], M1)) rfl rfl rfl ?_
  refine ps_if2 (S1 := (20, [(0, .ref m0), (1, .int t), (2, .int (nI k)), (3, .int 5)], [], M1)) (S2 := (15, [(0, .ref m0)], [], M1)) rfl rfl rfl (fun c_12 => ?_) (fun c_12 => ?_)
  rotate_left
  · exact absurd (by decide) (of_decide_eq_false c_12)
  refine ps_st (S' := (21, [(0, .ref m0), (1, .int t), (2, .int (nI k)), (3, .int 5)], [.ref m0], M1)) rfl rfl rfl ?_
  refine pr_int (j := 18) (S' := (24, [(0, .ref m0), (1, .int t), (2, .int (nI k)), (3, .int 5)], [.int (nI n2)], M1)) rfl hR3 rfl hi6 rfl ?_
  refine ps_if (S1 := (50, [], [], M1)) (S2 := (27, [(0, .ref m0), (1, .int t), (2, .int (nI k)), (3, .int 5)], [], M1)) rfl rfl rfl (fun c_24 => ?_) (fun c_24 => ?_)
  · exact absurd (of_decide_eq_true c_24) (nI_n0 (by omega))
  refine ps_st (S' := (28, [(0, .ref m0), (1, .int t), (2, .int (nI k)), (3, .int 5)], [.int (nI k)], M1)) rfl rfl rfl ?_
  refine ps_if (S1 := (50, [], [], M1)) (S2 := (31, [(0, .ref m0), (1, .int t), (2, .int (nI k)), (3, .int 5)], [], M1)) rfl rfl rfl (fun c_28 => ?_) (fun c_28 => ?_)
  · exact absurd (of_decide_eq_true c_28) (nI_n0 (by omega))
  refine ps_st (S' := (32, [(0, .ref m0), (1, .int t), (2, .int (nI k)), (3, .int 5)], [.int (nI k)], M1)) rfl rfl rfl ?_
  refine ps_st (S' := (33, [(0, .ref m0), (1, .int t), (2, .int (nI k)), (3, .int 5)], [.int t, .int (nI k)], M1)) rfl rfl rfl ?_
  refine ps_if (S1 := (43, [(0, .ref m0), (1, .int t), (2, .int (nI k)), (3, .int 5)], [.int (nI k)], M1)) (S2 := (36, [(0, .ref m0), (1, .int t), (2, .int (nI k)), (3, .int 5)], [.int (nI k)], M1)) rfl rfl rfl (fun c_33 => ?_) (fun c_33 => ?_)
  rotate_left
  · exact absurd (ht) (of_decide_eq_false c_33)
  refine ps_st (S' := (44, [(0, .ref m0), (1, .int t), (2, .int (nI k)), (3, .int 5)], [.ref m0, .int (nI k)], M1)) rfl rfl rfl ?_
  refine pr_int (j := 25) (S' := (47, [(0, .ref m0), (1, .int t), (2, .int (nI k)), (3, .int 5)], [.int (nI B.length), .int (nI k)], M1)) rfl hR3 rfl hi7 rfl ?_
  refine ps_if2 (S1 := (52, [(0, .ref m0), (1, .int t), (2, .int (nI k)), (3, .int 5)], [], M1)) (S2 := (50, [], [], M1)) rfl rfl rfl (fun c_47 => ?_) (fun c_47 => ?_)
  rotate_left
  · exact absurd ((lt_nI (p := k) (n := B.length) (by omega) (by omega)).mpr hk) (of_decide_eq_false c_47)
  refine ps_st (S' := (53, [(0, .ref m0), (1, .int t), (2, .int (nI k)), (3, .int 5)], [.int 5], M1)) rfl rfl rfl ?_
  refine ps_st (S' := (188, [(0, .ref m0), (1, .int t), (2, .int (nI k)), (3, .int 5)], [], M1)) rfl rfl rfl ?_
  refine ps_st (S' := (189, [(0, .ref m0), (1, .int t), (2, .int (nI k)), (3, .int 5)], [.int t], M1)) rfl rfl rfl ?_
  refine ps_if (S1 := (194, [(0, .ref m0), (1, .int t), (2, .int (nI k)), (3, .int 5)], [], M1)) (S2 := (192, [(0, .ref m0), (1, .int t), (2, .int (nI k)), (3, .int 5)], [], M1)) rfl rfl rfl (fun c_189 => ?_) (fun c_189 => ?_)
  · exact absurd (of_decide_eq_true c_189) (fun h9 => h9 ht)
  refine ps_st (S' := (193, [(0, .ref m0), (1, .int t), (2, .int (nI k)), (3, .int 5)], [.int 0], M1)) rfl rfl rfl ?_
  exact ps_ret rfl rfl (⟨I2, R, rfl, hR3, hEI9, hER, hi4⟩)
set_option maxHeartbeats 1000000 in
theorem rd_memberF6 {g : xe_G} {m0 : Nat} {q : Nat → Nat} {z : Nat × Nat} {I : rI} {R : rR} {M : mi_H} {f : Nat → Int32} {n n2 k : Nat} {E : List (Nat × Nat)} {B : List Nat} {t : Int32} (hR : RS g m0 q z I R M) (hi18 : I 18 = some (nI n2)) (hi25 : I 25 = some (nI B.length)) (hQ : FQ f n E B 0 B.length I R) (hn2 : n2 ≤ 65540) (ht : t = 0) (hk : k < B.length) (hBl : B.length < 65536) : pt (mT g) 223 [.ref m0, .int t, .int (nI k), .int 6] M (fun v M' => (∃  (I' : rI) (R' : rR), v = some (.int 0) ∧ RS g m0 q z I' R' M' ∧ eqI [0] I I' ∧ eqR [] R R' ∧ I' 0 = some 0)) := by
  refine pt_in (b := mb_223 g) rfl (fun kf => ?_)
  show pl (mT g) kf (mb_223 g).2 (0, [(0, .ref m0), (1, .int t), (2, .int (nI k)), (3, .int 6)], [], M) _
  have hEI : eqI [0] I I := eqI.rf
  have hER : eqR [] R R := eqR.rf
  have g9 := hQ k hk
  rw [Nat.zero_add] at g9
  refine ps_st (S' := (1, [(0, .ref m0), (1, .int t), (2, .int (nI k)), (3, .int 6)], [.ref m0], M)) rfl rfl rfl ?_
  refine ps_st (S' := (2, [(0, .ref m0), (1, .int t), (2, .int (nI k)), (3, .int 6)], [.int 0, .ref m0], M)) rfl rfl rfl ?_
  refine pr_put (j := 0) rfl hR rfl (fun M1 I2 hR3 hi4 hI5 => ?_)
  have hi6 := (hI5 18 (by decide)).trans hi18
  have hi7 := (hI5 25 (by decide)).trans hi25
  have hQ_8 := hQ.mono (pIx hI5 (by decide)) (fun _ _ => rfl)
  have hEI9 := hEI.put hI5 (by decide)
  show pl _ _ _ (5, [(0, .ref m0), (1, .int t), (2, .int (nI k)), (3, .int 6)], [], M1) _
  refine ps_st (S' := (6, [(0, .ref m0), (1, .int t), (2, .int (nI k)), (3, .int 6)], [.int 6], M1)) rfl rfl rfl ?_
  refine ps_if (S1 := (15, [(0, .ref m0)], [], M1)) (S2 := (9, [(0, .ref m0), (1, .int t), (2, .int (nI k)), (3, .int 6)], [], M1)) rfl rfl rfl (fun c_6 => ?_) (fun c_6 => ?_)
  · exact absurd (of_decide_eq_true c_6) (by decide)
  refine ps_st (S' := (10, [(0, .ref m0), (1, .int t), (2, .int (nI k)), (3, .int 6)], [.int 6], M1)) rfl rfl rfl ?_
  refine ps_st (S' := (12, [(0, .ref m0), (1, .int t), (2, .int (nI k)), (3, .int 6)], [.int 9, .int 6], M1)) rfl rfl rfl ?_
  refine ps_if2 (S1 := (20, [(0, .ref m0), (1, .int t), (2, .int (nI k)), (3, .int 6)], [], M1)) (S2 := (15, [(0, .ref m0)], [], M1)) rfl rfl rfl (fun c_12 => ?_) (fun c_12 => ?_)
  rotate_left
  · exact absurd (by decide) (of_decide_eq_false c_12)
  refine ps_st (S' := (21, [(0, .ref m0), (1, .int t), (2, .int (nI k)), (3, .int 6)], [.ref m0], M1)) rfl rfl rfl ?_
  refine pr_int (j := 18) (S' := (24, [(0, .ref m0), (1, .int t), (2, .int (nI k)), (3, .int 6)], [.int (nI n2)], M1)) rfl hR3 rfl hi6 rfl ?_
  refine ps_if (S1 := (50, [], [], M1)) (S2 := (27, [(0, .ref m0), (1, .int t), (2, .int (nI k)), (3, .int 6)], [], M1)) rfl rfl rfl (fun c_24 => ?_) (fun c_24 => ?_)
  · exact absurd (of_decide_eq_true c_24) (nI_n0 (by omega))
  refine ps_st (S' := (28, [(0, .ref m0), (1, .int t), (2, .int (nI k)), (3, .int 6)], [.int (nI k)], M1)) rfl rfl rfl ?_
  refine ps_if (S1 := (50, [], [], M1)) (S2 := (31, [(0, .ref m0), (1, .int t), (2, .int (nI k)), (3, .int 6)], [], M1)) rfl rfl rfl (fun c_28 => ?_) (fun c_28 => ?_)
  · exact absurd (of_decide_eq_true c_28) (nI_n0 (by omega))
  refine ps_st (S' := (32, [(0, .ref m0), (1, .int t), (2, .int (nI k)), (3, .int 6)], [.int (nI k)], M1)) rfl rfl rfl ?_
  refine ps_st (S' := (33, [(0, .ref m0), (1, .int t), (2, .int (nI k)), (3, .int 6)], [.int t, .int (nI k)], M1)) rfl rfl rfl ?_
  refine ps_if (S1 := (43, [(0, .ref m0), (1, .int t), (2, .int (nI k)), (3, .int 6)], [.int (nI k)], M1)) (S2 := (36, [(0, .ref m0), (1, .int t), (2, .int (nI k)), (3, .int 6)], [.int (nI k)], M1)) rfl rfl rfl (fun c_33 => ?_) (fun c_33 => ?_)
  rotate_left
  · exact absurd (ht) (of_decide_eq_false c_33)
  refine ps_st (S' := (44, [(0, .ref m0), (1, .int t), (2, .int (nI k)), (3, .int 6)], [.ref m0, .int (nI k)], M1)) rfl rfl rfl ?_
  refine pr_int (j := 25) (S' := (47, [(0, .ref m0), (1, .int t), (2, .int (nI k)), (3, .int 6)], [.int (nI B.length), .int (nI k)], M1)) rfl hR3 rfl hi7 rfl ?_
  refine ps_if2 (S1 := (52, [(0, .ref m0), (1, .int t), (2, .int (nI k)), (3, .int 6)], [], M1)) (S2 := (50, [], [], M1)) rfl rfl rfl (fun c_47 => ?_) (fun c_47 => ?_)
  rotate_left
  · exact absurd ((lt_nI (p := k) (n := B.length) (by omega) (by omega)).mpr hk) (of_decide_eq_false c_47)
  refine ps_st (S' := (53, [(0, .ref m0), (1, .int t), (2, .int (nI k)), (3, .int 6)], [.int 6], M1)) rfl rfl rfl ?_
  refine ps_st (S' := (188, [(0, .ref m0), (1, .int t), (2, .int (nI k)), (3, .int 6)], [], M1)) rfl rfl rfl ?_
  refine ps_st (S' := (189, [(0, .ref m0), (1, .int t), (2, .int (nI k)), (3, .int 6)], [.int t], M1)) rfl rfl rfl ?_
  refine ps_if (S1 := (194, [(0, .ref m0), (1, .int t), (2, .int (nI k)), (3, .int 6)], [], M1)) (S2 := (192, [(0, .ref m0), (1, .int t), (2, .int (nI k)), (3, .int 6)], [], M1)) rfl rfl rfl (fun c_189 => ?_) (fun c_189 => ?_)
  · exact absurd (of_decide_eq_true c_189) (fun h9 => h9 ht)
  refine ps_st (S' := (193, [(0, .ref m0), (1, .int t), (2, .int (nI k)), (3, .int 6)], [.int 0], M1)) rfl rfl rfl ?_
  exact ps_ret rfl rfl (⟨I2, R, rfl, hR3, hEI9, hER, hi4⟩)
set_option maxHeartbeats 1000000 in
theorem rd_memberF7 {g : xe_G} {m0 : Nat} {q : Nat → Nat} {z : Nat × Nat} {I : rI} {R : rR} {M : mi_H} {f : Nat → Int32} {n n2 k : Nat} {E : List (Nat × Nat)} {B : List Nat} {t : Int32} (hR : RS g m0 q z I R M) (hi18 : I 18 = some (nI n2)) (hi25 : I 25 = some (nI B.length)) (hQ : FQ f n E B 0 B.length I R) (hn2 : n2 ≤ 65540) (ht : t = 0) (hk : k < B.length) (hBl : B.length < 65536) : pt (mT g) 223 [.ref m0, .int t, .int (nI k), .int 7] M (fun v M' => (∃  (I' : rI) (R' : rR), v = some (.int 0) ∧ RS g m0 q z I' R' M' ∧ eqI [0] I I' ∧ eqR [] R R' ∧ I' 0 = some 0)) := by
  refine pt_in (b := mb_223 g) rfl (fun kf => ?_)
  show pl (mT g) kf (mb_223 g).2 (0, [(0, .ref m0), (1, .int t), (2, .int (nI k)), (3, .int 7)], [], M) _
  have hEI : eqI [0] I I := eqI.rf
  have hER : eqR [] R R := eqR.rf
  have g9 := hQ k hk
  rw [Nat.zero_add] at g9
  refine ps_st (S' := (1, [(0, .ref m0), (1, .int t), (2, .int (nI k)), (3, .int 7)], [.ref m0], M)) rfl rfl rfl ?_
  refine ps_st (S' := (2, [(0, .ref m0), (1, .int t), (2, .int (nI k)), (3, .int 7)], [.int 0, .ref m0], M)) rfl rfl rfl ?_
  refine pr_put (j := 0) rfl hR rfl (fun M1 I2 hR3 hi4 hI5 => ?_)
  have hi6 := (hI5 18 (by decide)).trans hi18
  have hi7 := (hI5 25 (by decide)).trans hi25
  have hQ_8 := hQ.mono (pIx hI5 (by decide)) (fun _ _ => rfl)
  have hEI9 := hEI.put hI5 (by decide)
  show pl _ _ _ (5, [(0, .ref m0), (1, .int t), (2, .int (nI k)), (3, .int 7)], [], M1) _
  refine ps_st (S' := (6, [(0, .ref m0), (1, .int t), (2, .int (nI k)), (3, .int 7)], [.int 7], M1)) rfl rfl rfl ?_
  refine ps_if (S1 := (15, [(0, .ref m0)], [], M1)) (S2 := (9, [(0, .ref m0), (1, .int t), (2, .int (nI k)), (3, .int 7)], [], M1)) rfl rfl rfl (fun c_6 => ?_) (fun c_6 => ?_)
  · exact absurd (of_decide_eq_true c_6) (by decide)
  refine ps_st (S' := (10, [(0, .ref m0), (1, .int t), (2, .int (nI k)), (3, .int 7)], [.int 7], M1)) rfl rfl rfl ?_
  refine ps_st (S' := (12, [(0, .ref m0), (1, .int t), (2, .int (nI k)), (3, .int 7)], [.int 9, .int 7], M1)) rfl rfl rfl ?_
  refine ps_if2 (S1 := (20, [(0, .ref m0), (1, .int t), (2, .int (nI k)), (3, .int 7)], [], M1)) (S2 := (15, [(0, .ref m0)], [], M1)) rfl rfl rfl (fun c_12 => ?_) (fun c_12 => ?_)
  rotate_left
  · exact absurd (by decide) (of_decide_eq_false c_12)
  refine ps_st (S' := (21, [(0, .ref m0), (1, .int t), (2, .int (nI k)), (3, .int 7)], [.ref m0], M1)) rfl rfl rfl ?_
  refine pr_int (j := 18) (S' := (24, [(0, .ref m0), (1, .int t), (2, .int (nI k)), (3, .int 7)], [.int (nI n2)], M1)) rfl hR3 rfl hi6 rfl ?_
  refine ps_if (S1 := (50, [], [], M1)) (S2 := (27, [(0, .ref m0), (1, .int t), (2, .int (nI k)), (3, .int 7)], [], M1)) rfl rfl rfl (fun c_24 => ?_) (fun c_24 => ?_)
  · exact absurd (of_decide_eq_true c_24) (nI_n0 (by omega))
  refine ps_st (S' := (28, [(0, .ref m0), (1, .int t), (2, .int (nI k)), (3, .int 7)], [.int (nI k)], M1)) rfl rfl rfl ?_
  refine ps_if (S1 := (50, [], [], M1)) (S2 := (31, [(0, .ref m0), (1, .int t), (2, .int (nI k)), (3, .int 7)], [], M1)) rfl rfl rfl (fun c_28 => ?_) (fun c_28 => ?_)
  · exact absurd (of_decide_eq_true c_28) (nI_n0 (by omega))
  refine ps_st (S' := (32, [(0, .ref m0), (1, .int t), (2, .int (nI k)), (3, .int 7)], [.int (nI k)], M1)) rfl rfl rfl ?_
  refine ps_st (S' := (33, [(0, .ref m0), (1, .int t), (2, .int (nI k)), (3, .int 7)], [.int t, .int (nI k)], M1)) rfl rfl rfl ?_
  refine ps_if (S1 := (43, [(0, .ref m0), (1, .int t), (2, .int (nI k)), (3, .int 7)], [.int (nI k)], M1)) (S2 := (36, [(0, .ref m0), (1, .int t), (2, .int (nI k)), (3, .int 7)], [.int (nI k)], M1)) rfl rfl rfl (fun c_33 => ?_) (fun c_33 => ?_)
  rotate_left
  · exact absurd (ht) (of_decide_eq_false c_33)
  refine ps_st (S' := (44, [(0, .ref m0), (1, .int t), (2, .int (nI k)), (3, .int 7)], [.ref m0, .int (nI k)], M1)) rfl rfl rfl ?_
  refine pr_int (j := 25) (S' := (47, [(0, .ref m0), (1, .int t), (2, .int (nI k)), (3, .int 7)], [.int (nI B.length), .int (nI k)], M1)) rfl hR3 rfl hi7 rfl ?_
  refine ps_if2 (S1 := (52, [(0, .ref m0), (1, .int t), (2, .int (nI k)), (3, .int 7)], [], M1)) (S2 := (50, [], [], M1)) rfl rfl rfl (fun c_47 => ?_) (fun c_47 => ?_)
  rotate_left
  · exact absurd ((lt_nI (p := k) (n := B.length) (by omega) (by omega)).mpr hk) (of_decide_eq_false c_47)
  refine ps_st (S' := (53, [(0, .ref m0), (1, .int t), (2, .int (nI k)), (3, .int 7)], [.int 7], M1)) rfl rfl rfl ?_
  refine ps_st (S' := (188, [(0, .ref m0), (1, .int t), (2, .int (nI k)), (3, .int 7)], [], M1)) rfl rfl rfl ?_
  refine ps_st (S' := (189, [(0, .ref m0), (1, .int t), (2, .int (nI k)), (3, .int 7)], [.int t], M1)) rfl rfl rfl ?_
  refine ps_if (S1 := (194, [(0, .ref m0), (1, .int t), (2, .int (nI k)), (3, .int 7)], [], M1)) (S2 := (192, [(0, .ref m0), (1, .int t), (2, .int (nI k)), (3, .int 7)], [], M1)) rfl rfl rfl (fun c_189 => ?_) (fun c_189 => ?_)
  · exact absurd (of_decide_eq_true c_189) (fun h9 => h9 ht)
  refine ps_st (S' := (193, [(0, .ref m0), (1, .int t), (2, .int (nI k)), (3, .int 7)], [.int 0], M1)) rfl rfl rfl ?_
  exact ps_ret rfl rfl (⟨I2, R, rfl, hR3, hEI9, hER, hi4⟩)
set_option maxHeartbeats 1000000 in
theorem rd_memberF8 {g : xe_G} {m0 : Nat} {q : Nat → Nat} {z : Nat × Nat} {I : rI} {R : rR} {M : mi_H} {f : Nat → Int32} {n n2 k : Nat} {E : List (Nat × Nat)} {B : List Nat} {t : Int32} (hR : RS g m0 q z I R M) (hi18 : I 18 = some (nI n2)) (hi25 : I 25 = some (nI B.length)) (hQ : FQ f n E B 0 B.length I R) (hn2 : n2 ≤ 65540) (ht : t = 0) (hk : k < B.length) (hBl : B.length < 65536) : pt (mT g) 223 [.ref m0, .int t, .int (nI k), .int 8] M (fun v M' => (∃  (I' : rI) (R' : rR), v = some (.int 0) ∧ RS g m0 q z I' R' M' ∧ eqI [0] I I' ∧ eqR [] R R' ∧ I' 0 = some 0)) := by
  refine pt_in (b := mb_223 g) rfl (fun kf => ?_)
  show pl (mT g) kf (mb_223 g).2 (0, [(0, .ref m0), (1, .int t), (2, .int (nI k)), (3, .int 8)], [], M) _
  have hEI : eqI [0] I I := eqI.rf
  have hER : eqR [] R R := eqR.rf
  have g9 := hQ k hk
  rw [Nat.zero_add] at g9
  refine ps_st (S' := (1, [(0, .ref m0), (1, .int t), (2, .int (nI k)), (3, .int 8)], [.ref m0], M)) rfl rfl rfl ?_
  refine ps_st (S' := (2, [(0, .ref m0), (1, .int t), (2, .int (nI k)), (3, .int 8)], [.int 0, .ref m0], M)) rfl rfl rfl ?_
  refine pr_put (j := 0) rfl hR rfl (fun M1 I2 hR3 hi4 hI5 => ?_)
  have hi6 := (hI5 18 (by decide)).trans hi18
  have hi7 := (hI5 25 (by decide)).trans hi25
  have hQ_8 := hQ.mono (pIx hI5 (by decide)) (fun _ _ => rfl)
  have hEI9 := hEI.put hI5 (by decide)
  show pl _ _ _ (5, [(0, .ref m0), (1, .int t), (2, .int (nI k)), (3, .int 8)], [], M1) _
  refine ps_st (S' := (6, [(0, .ref m0), (1, .int t), (2, .int (nI k)), (3, .int 8)], [.int 8], M1)) rfl rfl rfl ?_
  refine ps_if (S1 := (15, [(0, .ref m0)], [], M1)) (S2 := (9, [(0, .ref m0), (1, .int t), (2, .int (nI k)), (3, .int 8)], [], M1)) rfl rfl rfl (fun c_6 => ?_) (fun c_6 => ?_)
  · exact absurd (of_decide_eq_true c_6) (by decide)
  refine ps_st (S' := (10, [(0, .ref m0), (1, .int t), (2, .int (nI k)), (3, .int 8)], [.int 8], M1)) rfl rfl rfl ?_
  refine ps_st (S' := (12, [(0, .ref m0), (1, .int t), (2, .int (nI k)), (3, .int 8)], [.int 9, .int 8], M1)) rfl rfl rfl ?_
  refine ps_if2 (S1 := (20, [(0, .ref m0), (1, .int t), (2, .int (nI k)), (3, .int 8)], [], M1)) (S2 := (15, [(0, .ref m0)], [], M1)) rfl rfl rfl (fun c_12 => ?_) (fun c_12 => ?_)
  rotate_left
  · exact absurd (by decide) (of_decide_eq_false c_12)
  refine ps_st (S' := (21, [(0, .ref m0), (1, .int t), (2, .int (nI k)), (3, .int 8)], [.ref m0], M1)) rfl rfl rfl ?_
  refine pr_int (j := 18) (S' := (24, [(0, .ref m0), (1, .int t), (2, .int (nI k)), (3, .int 8)], [.int (nI n2)], M1)) rfl hR3 rfl hi6 rfl ?_
  refine ps_if (S1 := (50, [], [], M1)) (S2 := (27, [(0, .ref m0), (1, .int t), (2, .int (nI k)), (3, .int 8)], [], M1)) rfl rfl rfl (fun c_24 => ?_) (fun c_24 => ?_)
  · exact absurd (of_decide_eq_true c_24) (nI_n0 (by omega))
  refine ps_st (S' := (28, [(0, .ref m0), (1, .int t), (2, .int (nI k)), (3, .int 8)], [.int (nI k)], M1)) rfl rfl rfl ?_
  refine ps_if (S1 := (50, [], [], M1)) (S2 := (31, [(0, .ref m0), (1, .int t), (2, .int (nI k)), (3, .int 8)], [], M1)) rfl rfl rfl (fun c_28 => ?_) (fun c_28 => ?_)
  · exact absurd (of_decide_eq_true c_28) (nI_n0 (by omega))
  refine ps_st (S' := (32, [(0, .ref m0), (1, .int t), (2, .int (nI k)), (3, .int 8)], [.int (nI k)], M1)) rfl rfl rfl ?_
  refine ps_st (S' := (33, [(0, .ref m0), (1, .int t), (2, .int (nI k)), (3, .int 8)], [.int t, .int (nI k)], M1)) rfl rfl rfl ?_
  refine ps_if (S1 := (43, [(0, .ref m0), (1, .int t), (2, .int (nI k)), (3, .int 8)], [.int (nI k)], M1)) (S2 := (36, [(0, .ref m0), (1, .int t), (2, .int (nI k)), (3, .int 8)], [.int (nI k)], M1)) rfl rfl rfl (fun c_33 => ?_) (fun c_33 => ?_)
  rotate_left
  · exact absurd (ht) (of_decide_eq_false c_33)
  refine ps_st (S' := (44, [(0, .ref m0), (1, .int t), (2, .int (nI k)), (3, .int 8)], [.ref m0, .int (nI k)], M1)) rfl rfl rfl ?_
  refine pr_int (j := 25) (S' := (47, [(0, .ref m0), (1, .int t), (2, .int (nI k)), (3, .int 8)], [.int (nI B.length), .int (nI k)], M1)) rfl hR3 rfl hi7 rfl ?_
  refine ps_if2 (S1 := (52, [(0, .ref m0), (1, .int t), (2, .int (nI k)), (3, .int 8)], [], M1)) (S2 := (50, [], [], M1)) rfl rfl rfl (fun c_47 => ?_) (fun c_47 => ?_)
  rotate_left
  · exact absurd ((lt_nI (p := k) (n := B.length) (by omega) (by omega)).mpr hk) (of_decide_eq_false c_47)
  refine ps_st (S' := (53, [(0, .ref m0), (1, .int t), (2, .int (nI k)), (3, .int 8)], [.int 8], M1)) rfl rfl rfl ?_
  refine ps_st (S' := (188, [(0, .ref m0), (1, .int t), (2, .int (nI k)), (3, .int 8)], [], M1)) rfl rfl rfl ?_
  refine ps_st (S' := (189, [(0, .ref m0), (1, .int t), (2, .int (nI k)), (3, .int 8)], [.int t], M1)) rfl rfl rfl ?_
  refine ps_if (S1 := (194, [(0, .ref m0), (1, .int t), (2, .int (nI k)), (3, .int 8)], [], M1)) (S2 := (192, [(0, .ref m0), (1, .int t), (2, .int (nI k)), (3, .int 8)], [], M1)) rfl rfl rfl (fun c_189 => ?_) (fun c_189 => ?_)
  · exact absurd (of_decide_eq_true c_189) (fun h9 => h9 ht)
  refine ps_st (S' := (193, [(0, .ref m0), (1, .int t), (2, .int (nI k)), (3, .int 8)], [.int 0], M1)) rfl rfl rfl ?_
  exact ps_ret rfl rfl (⟨I2, R, rfl, hR3, hEI9, hER, hi4⟩)
set_option maxHeartbeats 1000000 in
theorem rd_memberF9 {g : xe_G} {m0 : Nat} {q : Nat → Nat} {z : Nat × Nat} {I : rI} {R : rR} {M : mi_H} {f : Nat → Int32} {n n2 k : Nat} {E : List (Nat × Nat)} {B : List Nat} {t : Int32} (hR : RS g m0 q z I R M) (hi18 : I 18 = some (nI n2)) (hi25 : I 25 = some (nI B.length)) (hQ : FQ f n E B 0 B.length I R) (hn2 : n2 ≤ 65540) (ht : t = 0) (hk : k < B.length) (hBl : B.length < 65536) : pt (mT g) 223 [.ref m0, .int t, .int (nI k), .int 9] M (fun v M' => (∃  (I' : rI) (R' : rR), v = some (.int 0) ∧ RS g m0 q z I' R' M' ∧ eqI [0] I I' ∧ eqR [] R R' ∧ I' 0 = some 0)) := by
  refine pt_in (b := mb_223 g) rfl (fun kf => ?_)
  show pl (mT g) kf (mb_223 g).2 (0, [(0, .ref m0), (1, .int t), (2, .int (nI k)), (3, .int 9)], [], M) _
  have hEI : eqI [0] I I := eqI.rf
  have hER : eqR [] R R := eqR.rf
  have g9 := hQ k hk
  rw [Nat.zero_add] at g9
  refine ps_st (S' := (1, [(0, .ref m0), (1, .int t), (2, .int (nI k)), (3, .int 9)], [.ref m0], M)) rfl rfl rfl ?_
  refine ps_st (S' := (2, [(0, .ref m0), (1, .int t), (2, .int (nI k)), (3, .int 9)], [.int 0, .ref m0], M)) rfl rfl rfl ?_
  refine pr_put (j := 0) rfl hR rfl (fun M1 I2 hR3 hi4 hI5 => ?_)
  have hi6 := (hI5 18 (by decide)).trans hi18
  have hi7 := (hI5 25 (by decide)).trans hi25
  have hQ_8 := hQ.mono (pIx hI5 (by decide)) (fun _ _ => rfl)
  have hEI9 := hEI.put hI5 (by decide)
  show pl _ _ _ (5, [(0, .ref m0), (1, .int t), (2, .int (nI k)), (3, .int 9)], [], M1) _
  refine ps_st (S' := (6, [(0, .ref m0), (1, .int t), (2, .int (nI k)), (3, .int 9)], [.int 9], M1)) rfl rfl rfl ?_
  refine ps_if (S1 := (15, [(0, .ref m0)], [], M1)) (S2 := (9, [(0, .ref m0), (1, .int t), (2, .int (nI k)), (3, .int 9)], [], M1)) rfl rfl rfl (fun c_6 => ?_) (fun c_6 => ?_)
  · exact absurd (of_decide_eq_true c_6) (by decide)
  refine ps_st (S' := (10, [(0, .ref m0), (1, .int t), (2, .int (nI k)), (3, .int 9)], [.int 9], M1)) rfl rfl rfl ?_
  refine ps_st (S' := (12, [(0, .ref m0), (1, .int t), (2, .int (nI k)), (3, .int 9)], [.int 9, .int 9], M1)) rfl rfl rfl ?_
  refine ps_if2 (S1 := (20, [(0, .ref m0), (1, .int t), (2, .int (nI k)), (3, .int 9)], [], M1)) (S2 := (15, [(0, .ref m0)], [], M1)) rfl rfl rfl (fun c_12 => ?_) (fun c_12 => ?_)
  rotate_left
  · exact absurd (by decide) (of_decide_eq_false c_12)
  refine ps_st (S' := (21, [(0, .ref m0), (1, .int t), (2, .int (nI k)), (3, .int 9)], [.ref m0], M1)) rfl rfl rfl ?_
  refine pr_int (j := 18) (S' := (24, [(0, .ref m0), (1, .int t), (2, .int (nI k)), (3, .int 9)], [.int (nI n2)], M1)) rfl hR3 rfl hi6 rfl ?_
  refine ps_if (S1 := (50, [], [], M1)) (S2 := (27, [(0, .ref m0), (1, .int t), (2, .int (nI k)), (3, .int 9)], [], M1)) rfl rfl rfl (fun c_24 => ?_) (fun c_24 => ?_)
  · exact absurd (of_decide_eq_true c_24) (nI_n0 (by omega))
  refine ps_st (S' := (28, [(0, .ref m0), (1, .int t), (2, .int (nI k)), (3, .int 9)], [.int (nI k)], M1)) rfl rfl rfl ?_
  refine ps_if (S1 := (50, [], [], M1)) (S2 := (31, [(0, .ref m0), (1, .int t), (2, .int (nI k)), (3, .int 9)], [], M1)) rfl rfl rfl (fun c_28 => ?_) (fun c_28 => ?_)
  · exact absurd (of_decide_eq_true c_28) (nI_n0 (by omega))
  refine ps_st (S' := (32, [(0, .ref m0), (1, .int t), (2, .int (nI k)), (3, .int 9)], [.int (nI k)], M1)) rfl rfl rfl ?_
  refine ps_st (S' := (33, [(0, .ref m0), (1, .int t), (2, .int (nI k)), (3, .int 9)], [.int t, .int (nI k)], M1)) rfl rfl rfl ?_
  refine ps_if (S1 := (43, [(0, .ref m0), (1, .int t), (2, .int (nI k)), (3, .int 9)], [.int (nI k)], M1)) (S2 := (36, [(0, .ref m0), (1, .int t), (2, .int (nI k)), (3, .int 9)], [.int (nI k)], M1)) rfl rfl rfl (fun c_33 => ?_) (fun c_33 => ?_)
  rotate_left
  · exact absurd (ht) (of_decide_eq_false c_33)
  refine ps_st (S' := (44, [(0, .ref m0), (1, .int t), (2, .int (nI k)), (3, .int 9)], [.ref m0, .int (nI k)], M1)) rfl rfl rfl ?_
  refine pr_int (j := 25) (S' := (47, [(0, .ref m0), (1, .int t), (2, .int (nI k)), (3, .int 9)], [.int (nI B.length), .int (nI k)], M1)) rfl hR3 rfl hi7 rfl ?_
  refine ps_if2 (S1 := (52, [(0, .ref m0), (1, .int t), (2, .int (nI k)), (3, .int 9)], [], M1)) (S2 := (50, [], [], M1)) rfl rfl rfl (fun c_47 => ?_) (fun c_47 => ?_)
  rotate_left
  · exact absurd ((lt_nI (p := k) (n := B.length) (by omega) (by omega)).mpr hk) (of_decide_eq_false c_47)
  refine ps_st (S' := (53, [(0, .ref m0), (1, .int t), (2, .int (nI k)), (3, .int 9)], [.int 9], M1)) rfl rfl rfl ?_
  refine ps_st (S' := (188, [(0, .ref m0), (1, .int t), (2, .int (nI k)), (3, .int 9)], [], M1)) rfl rfl rfl ?_
  refine ps_st (S' := (189, [(0, .ref m0), (1, .int t), (2, .int (nI k)), (3, .int 9)], [.int t], M1)) rfl rfl rfl ?_
  refine ps_if (S1 := (194, [(0, .ref m0), (1, .int t), (2, .int (nI k)), (3, .int 9)], [], M1)) (S2 := (192, [(0, .ref m0), (1, .int t), (2, .int (nI k)), (3, .int 9)], [], M1)) rfl rfl rfl (fun c_189 => ?_) (fun c_189 => ?_)
  · exact absurd (of_decide_eq_true c_189) (fun h9 => h9 ht)
  refine ps_st (S' := (193, [(0, .ref m0), (1, .int t), (2, .int (nI k)), (3, .int 9)], [.int 0], M1)) rfl rfl rfl ?_
  exact ps_ret rfl rfl (⟨I2, R, rfl, hR3, hEI9, hER, hi4⟩)
set_option maxHeartbeats 1000000 in
theorem rd_memberM0 {g : xe_G} {m0 : Nat} {q : Nat → Nat} {z : Nat × Nat} {I : rI} {R : rR} {M : mi_H} {f : Nat → Int32} {n n2 k : Nat} {E : List (Nat × Nat)} {B : List Nat} {t : Int32} (hR : RS g m0 q z I R M) (hi18 : I 18 = some (nI n2)) (hi26 : I 26 = some (nI B.length)) (hQ : MQX f n E B 0 B.length I R) (hn2 : n2 ≤ 65540) (ht : ¬ t = 0) (hk : k < B.length) (hBl : B.length < 65536) : pt (mT g) 223 [.ref m0, .int t, .int (nI k), .int 0] M (fun v M' => (∃  (I' : rI) (R' : rR), v = some (.int (nI (by2 f (B.getD k 0)))) ∧ RS g m0 q z I' R' M' ∧ eqI [0] I I' ∧ eqR [] R R' ∧ I' 0 = some 0)) := by
  refine pt_in (b := mb_223 g) rfl (fun kf => ?_)
  show pl (mT g) kf (mb_223 g).2 (0, [(0, .ref m0), (1, .int t), (2, .int (nI k)), (3, .int 0)], [], M) _
  have hEI : eqI [0] I I := eqI.rf
  have hER : eqR [] R R := eqR.rf
  have g9 := hQ k hk
  rw [Nat.zero_add] at g9
  refine ps_st (S' := (1, [(0, .ref m0), (1, .int t), (2, .int (nI k)), (3, .int 0)], [.ref m0], M)) rfl rfl rfl ?_
  refine ps_st (S' := (2, [(0, .ref m0), (1, .int t), (2, .int (nI k)), (3, .int 0)], [.int 0, .ref m0], M)) rfl rfl rfl ?_
  refine pr_put (j := 0) rfl hR rfl (fun M1 I2 hR3 hi4 hI5 => ?_)
  have hi6 := (hI5 18 (by decide)).trans hi18
  have hi7 := (hI5 26 (by decide)).trans hi26
  have hQ_8 := hQ.mono (pIx hI5 (by decide)) (fun _ _ => rfl)
  have hEI9 := hEI.put hI5 (by decide)
  show pl _ _ _ (5, [(0, .ref m0), (1, .int t), (2, .int (nI k)), (3, .int 0)], [], M1) _
  refine ps_st (S' := (6, [(0, .ref m0), (1, .int t), (2, .int (nI k)), (3, .int 0)], [.int 0], M1)) rfl rfl rfl ?_
  refine ps_if (S1 := (15, [(0, .ref m0)], [], M1)) (S2 := (9, [(0, .ref m0), (1, .int t), (2, .int (nI k)), (3, .int 0)], [], M1)) rfl rfl rfl (fun c_6 => ?_) (fun c_6 => ?_)
  · exact absurd (of_decide_eq_true c_6) (by decide)
  refine ps_st (S' := (10, [(0, .ref m0), (1, .int t), (2, .int (nI k)), (3, .int 0)], [.int 0], M1)) rfl rfl rfl ?_
  refine ps_st (S' := (12, [(0, .ref m0), (1, .int t), (2, .int (nI k)), (3, .int 0)], [.int 9, .int 0], M1)) rfl rfl rfl ?_
  refine ps_if2 (S1 := (20, [(0, .ref m0), (1, .int t), (2, .int (nI k)), (3, .int 0)], [], M1)) (S2 := (15, [(0, .ref m0)], [], M1)) rfl rfl rfl (fun c_12 => ?_) (fun c_12 => ?_)
  rotate_left
  · exact absurd (by decide) (of_decide_eq_false c_12)
  refine ps_st (S' := (21, [(0, .ref m0), (1, .int t), (2, .int (nI k)), (3, .int 0)], [.ref m0], M1)) rfl rfl rfl ?_
  refine pr_int (j := 18) (S' := (24, [(0, .ref m0), (1, .int t), (2, .int (nI k)), (3, .int 0)], [.int (nI n2)], M1)) rfl hR3 rfl hi6 rfl ?_
  refine ps_if (S1 := (50, [], [], M1)) (S2 := (27, [(0, .ref m0), (1, .int t), (2, .int (nI k)), (3, .int 0)], [], M1)) rfl rfl rfl (fun c_24 => ?_) (fun c_24 => ?_)
  · exact absurd (of_decide_eq_true c_24) (nI_n0 (by omega))
  refine ps_st (S' := (28, [(0, .ref m0), (1, .int t), (2, .int (nI k)), (3, .int 0)], [.int (nI k)], M1)) rfl rfl rfl ?_
  refine ps_if (S1 := (50, [], [], M1)) (S2 := (31, [(0, .ref m0), (1, .int t), (2, .int (nI k)), (3, .int 0)], [], M1)) rfl rfl rfl (fun c_28 => ?_) (fun c_28 => ?_)
  · exact absurd (of_decide_eq_true c_28) (nI_n0 (by omega))
  refine ps_st (S' := (32, [(0, .ref m0), (1, .int t), (2, .int (nI k)), (3, .int 0)], [.int (nI k)], M1)) rfl rfl rfl ?_
  refine ps_st (S' := (33, [(0, .ref m0), (1, .int t), (2, .int (nI k)), (3, .int 0)], [.int t, .int (nI k)], M1)) rfl rfl rfl ?_
  refine ps_if (S1 := (43, [(0, .ref m0), (1, .int t), (2, .int (nI k)), (3, .int 0)], [.int (nI k)], M1)) (S2 := (36, [(0, .ref m0), (1, .int t), (2, .int (nI k)), (3, .int 0)], [.int (nI k)], M1)) rfl rfl rfl (fun c_33 => ?_) (fun c_33 => ?_)
  · exact absurd (of_decide_eq_true c_33) (ht)
  refine ps_st (S' := (37, [(0, .ref m0), (1, .int t), (2, .int (nI k)), (3, .int 0)], [.ref m0, .int (nI k)], M1)) rfl rfl rfl ?_
  refine pr_int (j := 26) (S' := (40, [(0, .ref m0), (1, .int t), (2, .int (nI k)), (3, .int 0)], [.int (nI B.length), .int (nI k)], M1)) rfl hR3 rfl hi7 rfl ?_
  refine ps_st (S' := (47, [(0, .ref m0), (1, .int t), (2, .int (nI k)), (3, .int 0)], [.int (nI B.length), .int (nI k)], M1)) rfl rfl rfl ?_
  refine ps_if2 (S1 := (52, [(0, .ref m0), (1, .int t), (2, .int (nI k)), (3, .int 0)], [], M1)) (S2 := (50, [], [], M1)) rfl rfl rfl (fun c_47 => ?_) (fun c_47 => ?_)
  rotate_left
  · exact absurd ((lt_nI (p := k) (n := B.length) (by omega) (by omega)).mpr hk) (of_decide_eq_false c_47)
  refine ps_st (S' := (53, [(0, .ref m0), (1, .int t), (2, .int (nI k)), (3, .int 0)], [.int 0], M1)) rfl rfl rfl ?_
  refine ps_st (S' := (88, [(0, .ref m0), (1, .int t), (2, .int (nI k)), (3, .int 0)], [], M1)) rfl rfl rfl ?_
  refine ps_st (S' := (89, [(0, .ref m0), (1, .int t), (2, .int (nI k)), (3, .int 0)], [.int t], M1)) rfl rfl rfl ?_
  refine ps_if (S1 := (101, [(0, .ref m0), (1, .int t), (2, .int (nI k)), (3, .int 0)], [], M1)) (S2 := (92, [(0, .ref m0), (1, .int t), (2, .int (nI k)), (3, .int 0)], [], M1)) rfl rfl rfl (fun c_89 => ?_) (fun c_89 => ?_)
  · exact absurd (of_decide_eq_true c_89) (ht)
  refine ps_st (S' := (93, [(0, .ref m0), (1, .int t), (2, .int (nI k)), (3, .int 0)], [.ref m0], M1)) rfl rfl rfl ?_
  refine pr_ref (j := 34) (S' := (96, [(0, .ref m0), (1, .int t), (2, .int (nI k)), (3, .int 0)], [.ref (q 34)], M1)) rfl hR3 rfl rfl ?_
  refine ps_st (S' := (97, [(0, .ref m0), (1, .int t), (2, .int (nI k)), (3, .int 0)], [.int (nI k), .ref (q 34)], M1)) rfl rfl rfl ?_
  refine pr_ld (a := 34) (j := k) (y := (nI (by2 f (B.getD k 0)))) (S' := (98, [(0, .ref m0), (1, .int t), (2, .int (nI k)), (3, .int 0)], [.int (nI (by2 f (B.getD k 0)))], M1)) rfl hR3 rfl (by omega) (fun _ => g9.1) rfl (fun i1_97 => ?_)
  refine ps_st (S' := (107, [], [.int (nI (by2 f (B.getD k 0)))], M1)) rfl rfl rfl ?_
  exact ps_reti rfl (⟨I2, R, rfl, hR3, hEI9, hER, hi4⟩)
set_option maxHeartbeats 1000000 in
theorem rd_memberM1 {g : xe_G} {m0 : Nat} {q : Nat → Nat} {z : Nat × Nat} {I : rI} {R : rR} {M : mi_H} {f : Nat → Int32} {n n2 k : Nat} {E : List (Nat × Nat)} {B : List Nat} {t : Int32} (hR : RS g m0 q z I R M) (hi18 : I 18 = some (nI n2)) (hi26 : I 26 = some (nI B.length)) (hQ : MQX f n E B 0 B.length I R) (hn2 : n2 ≤ 65540) (ht : ¬ t = 0) (hk : k < B.length) (hBl : B.length < 65536) : pt (mT g) 223 [.ref m0, .int t, .int (nI k), .int 1] M (fun v M' => (∃  (I' : rI) (R' : rR), v = some (.int (nI (by2 f (B.getD k 0 + 2)))) ∧ RS g m0 q z I' R' M' ∧ eqI [0] I I' ∧ eqR [] R R' ∧ I' 0 = some 0)) := by
  refine pt_in (b := mb_223 g) rfl (fun kf => ?_)
  show pl (mT g) kf (mb_223 g).2 (0, [(0, .ref m0), (1, .int t), (2, .int (nI k)), (3, .int 1)], [], M) _
  have hEI : eqI [0] I I := eqI.rf
  have hER : eqR [] R R := eqR.rf
  have g9 := hQ k hk
  rw [Nat.zero_add] at g9
  refine ps_st (S' := (1, [(0, .ref m0), (1, .int t), (2, .int (nI k)), (3, .int 1)], [.ref m0], M)) rfl rfl rfl ?_
  refine ps_st (S' := (2, [(0, .ref m0), (1, .int t), (2, .int (nI k)), (3, .int 1)], [.int 0, .ref m0], M)) rfl rfl rfl ?_
  refine pr_put (j := 0) rfl hR rfl (fun M1 I2 hR3 hi4 hI5 => ?_)
  have hi6 := (hI5 18 (by decide)).trans hi18
  have hi7 := (hI5 26 (by decide)).trans hi26
  have hQ_8 := hQ.mono (pIx hI5 (by decide)) (fun _ _ => rfl)
  have hEI9 := hEI.put hI5 (by decide)
  show pl _ _ _ (5, [(0, .ref m0), (1, .int t), (2, .int (nI k)), (3, .int 1)], [], M1) _
  refine ps_st (S' := (6, [(0, .ref m0), (1, .int t), (2, .int (nI k)), (3, .int 1)], [.int 1], M1)) rfl rfl rfl ?_
  refine ps_if (S1 := (15, [(0, .ref m0)], [], M1)) (S2 := (9, [(0, .ref m0), (1, .int t), (2, .int (nI k)), (3, .int 1)], [], M1)) rfl rfl rfl (fun c_6 => ?_) (fun c_6 => ?_)
  · exact absurd (of_decide_eq_true c_6) (by decide)
  refine ps_st (S' := (10, [(0, .ref m0), (1, .int t), (2, .int (nI k)), (3, .int 1)], [.int 1], M1)) rfl rfl rfl ?_
  refine ps_st (S' := (12, [(0, .ref m0), (1, .int t), (2, .int (nI k)), (3, .int 1)], [.int 9, .int 1], M1)) rfl rfl rfl ?_
  refine ps_if2 (S1 := (20, [(0, .ref m0), (1, .int t), (2, .int (nI k)), (3, .int 1)], [], M1)) (S2 := (15, [(0, .ref m0)], [], M1)) rfl rfl rfl (fun c_12 => ?_) (fun c_12 => ?_)
  rotate_left
  · exact absurd (by decide) (of_decide_eq_false c_12)
  refine ps_st (S' := (21, [(0, .ref m0), (1, .int t), (2, .int (nI k)), (3, .int 1)], [.ref m0], M1)) rfl rfl rfl ?_
  refine pr_int (j := 18) (S' := (24, [(0, .ref m0), (1, .int t), (2, .int (nI k)), (3, .int 1)], [.int (nI n2)], M1)) rfl hR3 rfl hi6 rfl ?_
  refine ps_if (S1 := (50, [], [], M1)) (S2 := (27, [(0, .ref m0), (1, .int t), (2, .int (nI k)), (3, .int 1)], [], M1)) rfl rfl rfl (fun c_24 => ?_) (fun c_24 => ?_)
  · exact absurd (of_decide_eq_true c_24) (nI_n0 (by omega))
  refine ps_st (S' := (28, [(0, .ref m0), (1, .int t), (2, .int (nI k)), (3, .int 1)], [.int (nI k)], M1)) rfl rfl rfl ?_
  refine ps_if (S1 := (50, [], [], M1)) (S2 := (31, [(0, .ref m0), (1, .int t), (2, .int (nI k)), (3, .int 1)], [], M1)) rfl rfl rfl (fun c_28 => ?_) (fun c_28 => ?_)
  · exact absurd (of_decide_eq_true c_28) (nI_n0 (by omega))
  refine ps_st (S' := (32, [(0, .ref m0), (1, .int t), (2, .int (nI k)), (3, .int 1)], [.int (nI k)], M1)) rfl rfl rfl ?_
  refine ps_st (S' := (33, [(0, .ref m0), (1, .int t), (2, .int (nI k)), (3, .int 1)], [.int t, .int (nI k)], M1)) rfl rfl rfl ?_
  refine ps_if (S1 := (43, [(0, .ref m0), (1, .int t), (2, .int (nI k)), (3, .int 1)], [.int (nI k)], M1)) (S2 := (36, [(0, .ref m0), (1, .int t), (2, .int (nI k)), (3, .int 1)], [.int (nI k)], M1)) rfl rfl rfl (fun c_33 => ?_) (fun c_33 => ?_)
  · exact absurd (of_decide_eq_true c_33) (ht)
  refine ps_st (S' := (37, [(0, .ref m0), (1, .int t), (2, .int (nI k)), (3, .int 1)], [.ref m0, .int (nI k)], M1)) rfl rfl rfl ?_
  refine pr_int (j := 26) (S' := (40, [(0, .ref m0), (1, .int t), (2, .int (nI k)), (3, .int 1)], [.int (nI B.length), .int (nI k)], M1)) rfl hR3 rfl hi7 rfl ?_
  refine ps_st (S' := (47, [(0, .ref m0), (1, .int t), (2, .int (nI k)), (3, .int 1)], [.int (nI B.length), .int (nI k)], M1)) rfl rfl rfl ?_
  refine ps_if2 (S1 := (52, [(0, .ref m0), (1, .int t), (2, .int (nI k)), (3, .int 1)], [], M1)) (S2 := (50, [], [], M1)) rfl rfl rfl (fun c_47 => ?_) (fun c_47 => ?_)
  rotate_left
  · exact absurd ((lt_nI (p := k) (n := B.length) (by omega) (by omega)).mpr hk) (of_decide_eq_false c_47)
  refine ps_st (S' := (53, [(0, .ref m0), (1, .int t), (2, .int (nI k)), (3, .int 1)], [.int 1], M1)) rfl rfl rfl ?_
  refine ps_st (S' := (108, [(0, .ref m0), (1, .int t), (2, .int (nI k)), (3, .int 1)], [], M1)) rfl rfl rfl ?_
  refine ps_st (S' := (109, [(0, .ref m0), (1, .int t), (2, .int (nI k)), (3, .int 1)], [.int t], M1)) rfl rfl rfl ?_
  refine ps_if (S1 := (121, [(0, .ref m0), (1, .int t), (2, .int (nI k)), (3, .int 1)], [], M1)) (S2 := (112, [(0, .ref m0), (1, .int t), (2, .int (nI k)), (3, .int 1)], [], M1)) rfl rfl rfl (fun c_109 => ?_) (fun c_109 => ?_)
  · exact absurd (of_decide_eq_true c_109) (ht)
  refine ps_st (S' := (113, [(0, .ref m0), (1, .int t), (2, .int (nI k)), (3, .int 1)], [.ref m0], M1)) rfl rfl rfl ?_
  refine pr_ref (j := 45) (S' := (116, [(0, .ref m0), (1, .int t), (2, .int (nI k)), (3, .int 1)], [.ref (q 45)], M1)) rfl hR3 rfl rfl ?_
  refine ps_st (S' := (117, [(0, .ref m0), (1, .int t), (2, .int (nI k)), (3, .int 1)], [.int (nI k), .ref (q 45)], M1)) rfl rfl rfl ?_
  refine pr_ld (a := 45) (j := k) (y := (nI (by2 f (B.getD k 0 + 2)))) (S' := (118, [(0, .ref m0), (1, .int t), (2, .int (nI k)), (3, .int 1)], [.int (nI (by2 f (B.getD k 0 + 2)))], M1)) rfl hR3 rfl (by omega) (fun _ => g9.2.2.1) rfl (fun i1_117 => ?_)
  refine ps_st (S' := (127, [], [.int (nI (by2 f (B.getD k 0 + 2)))], M1)) rfl rfl rfl ?_
  exact ps_reti rfl (⟨I2, R, rfl, hR3, hEI9, hER, hi4⟩)
set_option maxHeartbeats 1000000 in
theorem rd_memberM2 {g : xe_G} {m0 : Nat} {q : Nat → Nat} {z : Nat × Nat} {I : rI} {R : rR} {M : mi_H} {f : Nat → Int32} {n n2 k : Nat} {E : List (Nat × Nat)} {B : List Nat} {t : Int32} (hR : RS g m0 q z I R M) (hi18 : I 18 = some (nI n2)) (hi26 : I 26 = some (nI B.length)) (hQ : MQX f n E B 0 B.length I R) (hn2 : n2 ≤ 65540) (ht : ¬ t = 0) (hk : k < B.length) (hBl : B.length < 65536) : pt (mT g) 223 [.ref m0, .int t, .int (nI k), .int 2] M (fun v M' => (∃  (I' : rI) (R' : rR), v = some (.int (nI (by2 f (B.getD k 0 + 4)))) ∧ RS g m0 q z I' R' M' ∧ eqI [0] I I' ∧ eqR [] R R' ∧ I' 0 = some 0)) := by
  refine pt_in (b := mb_223 g) rfl (fun kf => ?_)
  show pl (mT g) kf (mb_223 g).2 (0, [(0, .ref m0), (1, .int t), (2, .int (nI k)), (3, .int 2)], [], M) _
  have hEI : eqI [0] I I := eqI.rf
  have hER : eqR [] R R := eqR.rf
  have g9 := hQ k hk
  rw [Nat.zero_add] at g9
  refine ps_st (S' := (1, [(0, .ref m0), (1, .int t), (2, .int (nI k)), (3, .int 2)], [.ref m0], M)) rfl rfl rfl ?_
  refine ps_st (S' := (2, [(0, .ref m0), (1, .int t), (2, .int (nI k)), (3, .int 2)], [.int 0, .ref m0], M)) rfl rfl rfl ?_
  refine pr_put (j := 0) rfl hR rfl (fun M1 I2 hR3 hi4 hI5 => ?_)
  have hi6 := (hI5 18 (by decide)).trans hi18
  have hi7 := (hI5 26 (by decide)).trans hi26
  have hQ_8 := hQ.mono (pIx hI5 (by decide)) (fun _ _ => rfl)
  have hEI9 := hEI.put hI5 (by decide)
  show pl _ _ _ (5, [(0, .ref m0), (1, .int t), (2, .int (nI k)), (3, .int 2)], [], M1) _
  refine ps_st (S' := (6, [(0, .ref m0), (1, .int t), (2, .int (nI k)), (3, .int 2)], [.int 2], M1)) rfl rfl rfl ?_
  refine ps_if (S1 := (15, [(0, .ref m0)], [], M1)) (S2 := (9, [(0, .ref m0), (1, .int t), (2, .int (nI k)), (3, .int 2)], [], M1)) rfl rfl rfl (fun c_6 => ?_) (fun c_6 => ?_)
  · exact absurd (of_decide_eq_true c_6) (by decide)
  refine ps_st (S' := (10, [(0, .ref m0), (1, .int t), (2, .int (nI k)), (3, .int 2)], [.int 2], M1)) rfl rfl rfl ?_
  refine ps_st (S' := (12, [(0, .ref m0), (1, .int t), (2, .int (nI k)), (3, .int 2)], [.int 9, .int 2], M1)) rfl rfl rfl ?_
  refine ps_if2 (S1 := (20, [(0, .ref m0), (1, .int t), (2, .int (nI k)), (3, .int 2)], [], M1)) (S2 := (15, [(0, .ref m0)], [], M1)) rfl rfl rfl (fun c_12 => ?_) (fun c_12 => ?_)
  rotate_left
  · exact absurd (by decide) (of_decide_eq_false c_12)
  refine ps_st (S' := (21, [(0, .ref m0), (1, .int t), (2, .int (nI k)), (3, .int 2)], [.ref m0], M1)) rfl rfl rfl ?_
  refine pr_int (j := 18) (S' := (24, [(0, .ref m0), (1, .int t), (2, .int (nI k)), (3, .int 2)], [.int (nI n2)], M1)) rfl hR3 rfl hi6 rfl ?_
  refine ps_if (S1 := (50, [], [], M1)) (S2 := (27, [(0, .ref m0), (1, .int t), (2, .int (nI k)), (3, .int 2)], [], M1)) rfl rfl rfl (fun c_24 => ?_) (fun c_24 => ?_)
  · exact absurd (of_decide_eq_true c_24) (nI_n0 (by omega))
  refine ps_st (S' := (28, [(0, .ref m0), (1, .int t), (2, .int (nI k)), (3, .int 2)], [.int (nI k)], M1)) rfl rfl rfl ?_
  refine ps_if (S1 := (50, [], [], M1)) (S2 := (31, [(0, .ref m0), (1, .int t), (2, .int (nI k)), (3, .int 2)], [], M1)) rfl rfl rfl (fun c_28 => ?_) (fun c_28 => ?_)
  · exact absurd (of_decide_eq_true c_28) (nI_n0 (by omega))
  refine ps_st (S' := (32, [(0, .ref m0), (1, .int t), (2, .int (nI k)), (3, .int 2)], [.int (nI k)], M1)) rfl rfl rfl ?_
  refine ps_st (S' := (33, [(0, .ref m0), (1, .int t), (2, .int (nI k)), (3, .int 2)], [.int t, .int (nI k)], M1)) rfl rfl rfl ?_
  refine ps_if (S1 := (43, [(0, .ref m0), (1, .int t), (2, .int (nI k)), (3, .int 2)], [.int (nI k)], M1)) (S2 := (36, [(0, .ref m0), (1, .int t), (2, .int (nI k)), (3, .int 2)], [.int (nI k)], M1)) rfl rfl rfl (fun c_33 => ?_) (fun c_33 => ?_)
  · exact absurd (of_decide_eq_true c_33) (ht)
  refine ps_st (S' := (37, [(0, .ref m0), (1, .int t), (2, .int (nI k)), (3, .int 2)], [.ref m0, .int (nI k)], M1)) rfl rfl rfl ?_
  refine pr_int (j := 26) (S' := (40, [(0, .ref m0), (1, .int t), (2, .int (nI k)), (3, .int 2)], [.int (nI B.length), .int (nI k)], M1)) rfl hR3 rfl hi7 rfl ?_
  refine ps_st (S' := (47, [(0, .ref m0), (1, .int t), (2, .int (nI k)), (3, .int 2)], [.int (nI B.length), .int (nI k)], M1)) rfl rfl rfl ?_
  refine ps_if2 (S1 := (52, [(0, .ref m0), (1, .int t), (2, .int (nI k)), (3, .int 2)], [], M1)) (S2 := (50, [], [], M1)) rfl rfl rfl (fun c_47 => ?_) (fun c_47 => ?_)
  rotate_left
  · exact absurd ((lt_nI (p := k) (n := B.length) (by omega) (by omega)).mpr hk) (of_decide_eq_false c_47)
  refine ps_st (S' := (53, [(0, .ref m0), (1, .int t), (2, .int (nI k)), (3, .int 2)], [.int 2], M1)) rfl rfl rfl ?_
  refine ps_st (S' := (128, [(0, .ref m0), (1, .int t), (2, .int (nI k)), (3, .int 2)], [], M1)) rfl rfl rfl ?_
  refine ps_st (S' := (129, [(0, .ref m0), (1, .int t), (2, .int (nI k)), (3, .int 2)], [.int t], M1)) rfl rfl rfl ?_
  refine ps_if (S1 := (141, [(0, .ref m0), (1, .int t), (2, .int (nI k)), (3, .int 2)], [], M1)) (S2 := (132, [(0, .ref m0), (1, .int t), (2, .int (nI k)), (3, .int 2)], [], M1)) rfl rfl rfl (fun c_129 => ?_) (fun c_129 => ?_)
  · exact absurd (of_decide_eq_true c_129) (ht)
  refine ps_st (S' := (133, [(0, .ref m0), (1, .int t), (2, .int (nI k)), (3, .int 2)], [.ref m0], M1)) rfl rfl rfl ?_
  refine pr_ref (j := 46) (S' := (136, [(0, .ref m0), (1, .int t), (2, .int (nI k)), (3, .int 2)], [.ref (q 46)], M1)) rfl hR3 rfl rfl ?_
  refine ps_st (S' := (137, [(0, .ref m0), (1, .int t), (2, .int (nI k)), (3, .int 2)], [.int (nI k), .ref (q 46)], M1)) rfl rfl rfl ?_
  refine pr_ld (a := 46) (j := k) (y := (nI (by2 f (B.getD k 0 + 4)))) (S' := (138, [(0, .ref m0), (1, .int t), (2, .int (nI k)), (3, .int 2)], [.int (nI (by2 f (B.getD k 0 + 4)))], M1)) rfl hR3 rfl (by omega) (fun _ => g9.2.2.2) rfl (fun i1_137 => ?_)
  refine ps_st (S' := (147, [], [.int (nI (by2 f (B.getD k 0 + 4)))], M1)) rfl rfl rfl ?_
  exact ps_reti rfl (⟨I2, R, rfl, hR3, hEI9, hER, hi4⟩)
set_option maxHeartbeats 1000000 in
theorem rd_memberM3 {g : xe_G} {m0 : Nat} {q : Nat → Nat} {z : Nat × Nat} {I : rI} {R : rR} {M : mi_H} {f : Nat → Int32} {n n2 k : Nat} {E : List (Nat × Nat)} {B : List Nat} {t : Int32} (hR : RS g m0 q z I R M) (hi18 : I 18 = some (nI n2)) (hi26 : I 26 = some (nI B.length)) (hQ : MQX f n E B 0 B.length I R) (hn2 : n2 ≤ 65540) (ht : ¬ t = 0) (hk : k < B.length) (hBl : B.length < 65536) : pt (mT g) 223 [.ref m0, .int t, .int (nI k), .int 3] M (fun v M' => (∃  (I' : rI) (R' : rR), v = some (.int (nI (mK f n E (B.getD k 0)).1)) ∧ RS g m0 q z I' R' M' ∧ eqI [0] I I' ∧ eqR [] R R' ∧ I' 0 = some 0)) := by
  refine pt_in (b := mb_223 g) rfl (fun kf => ?_)
  show pl (mT g) kf (mb_223 g).2 (0, [(0, .ref m0), (1, .int t), (2, .int (nI k)), (3, .int 3)], [], M) _
  have hEI : eqI [0] I I := eqI.rf
  have hER : eqR [] R R := eqR.rf
  have g9 := hQ k hk
  rw [Nat.zero_add] at g9
  refine ps_st (S' := (1, [(0, .ref m0), (1, .int t), (2, .int (nI k)), (3, .int 3)], [.ref m0], M)) rfl rfl rfl ?_
  refine ps_st (S' := (2, [(0, .ref m0), (1, .int t), (2, .int (nI k)), (3, .int 3)], [.int 0, .ref m0], M)) rfl rfl rfl ?_
  refine pr_put (j := 0) rfl hR rfl (fun M1 I2 hR3 hi4 hI5 => ?_)
  have hi6 := (hI5 18 (by decide)).trans hi18
  have hi7 := (hI5 26 (by decide)).trans hi26
  have hQ_8 := hQ.mono (pIx hI5 (by decide)) (fun _ _ => rfl)
  have hEI9 := hEI.put hI5 (by decide)
  show pl _ _ _ (5, [(0, .ref m0), (1, .int t), (2, .int (nI k)), (3, .int 3)], [], M1) _
  refine ps_st (S' := (6, [(0, .ref m0), (1, .int t), (2, .int (nI k)), (3, .int 3)], [.int 3], M1)) rfl rfl rfl ?_
  refine ps_if (S1 := (15, [(0, .ref m0)], [], M1)) (S2 := (9, [(0, .ref m0), (1, .int t), (2, .int (nI k)), (3, .int 3)], [], M1)) rfl rfl rfl (fun c_6 => ?_) (fun c_6 => ?_)
  · exact absurd (of_decide_eq_true c_6) (by decide)
  refine ps_st (S' := (10, [(0, .ref m0), (1, .int t), (2, .int (nI k)), (3, .int 3)], [.int 3], M1)) rfl rfl rfl ?_
  refine ps_st (S' := (12, [(0, .ref m0), (1, .int t), (2, .int (nI k)), (3, .int 3)], [.int 9, .int 3], M1)) rfl rfl rfl ?_
  refine ps_if2 (S1 := (20, [(0, .ref m0), (1, .int t), (2, .int (nI k)), (3, .int 3)], [], M1)) (S2 := (15, [(0, .ref m0)], [], M1)) rfl rfl rfl (fun c_12 => ?_) (fun c_12 => ?_)
  rotate_left
  · exact absurd (by decide) (of_decide_eq_false c_12)
  refine ps_st (S' := (21, [(0, .ref m0), (1, .int t), (2, .int (nI k)), (3, .int 3)], [.ref m0], M1)) rfl rfl rfl ?_
  refine pr_int (j := 18) (S' := (24, [(0, .ref m0), (1, .int t), (2, .int (nI k)), (3, .int 3)], [.int (nI n2)], M1)) rfl hR3 rfl hi6 rfl ?_
  refine ps_if (S1 := (50, [], [], M1)) (S2 := (27, [(0, .ref m0), (1, .int t), (2, .int (nI k)), (3, .int 3)], [], M1)) rfl rfl rfl (fun c_24 => ?_) (fun c_24 => ?_)
  · exact absurd (of_decide_eq_true c_24) (nI_n0 (by omega))
  refine ps_st (S' := (28, [(0, .ref m0), (1, .int t), (2, .int (nI k)), (3, .int 3)], [.int (nI k)], M1)) rfl rfl rfl ?_
  refine ps_if (S1 := (50, [], [], M1)) (S2 := (31, [(0, .ref m0), (1, .int t), (2, .int (nI k)), (3, .int 3)], [], M1)) rfl rfl rfl (fun c_28 => ?_) (fun c_28 => ?_)
  · exact absurd (of_decide_eq_true c_28) (nI_n0 (by omega))
  refine ps_st (S' := (32, [(0, .ref m0), (1, .int t), (2, .int (nI k)), (3, .int 3)], [.int (nI k)], M1)) rfl rfl rfl ?_
  refine ps_st (S' := (33, [(0, .ref m0), (1, .int t), (2, .int (nI k)), (3, .int 3)], [.int t, .int (nI k)], M1)) rfl rfl rfl ?_
  refine ps_if (S1 := (43, [(0, .ref m0), (1, .int t), (2, .int (nI k)), (3, .int 3)], [.int (nI k)], M1)) (S2 := (36, [(0, .ref m0), (1, .int t), (2, .int (nI k)), (3, .int 3)], [.int (nI k)], M1)) rfl rfl rfl (fun c_33 => ?_) (fun c_33 => ?_)
  · exact absurd (of_decide_eq_true c_33) (ht)
  refine ps_st (S' := (37, [(0, .ref m0), (1, .int t), (2, .int (nI k)), (3, .int 3)], [.ref m0, .int (nI k)], M1)) rfl rfl rfl ?_
  refine pr_int (j := 26) (S' := (40, [(0, .ref m0), (1, .int t), (2, .int (nI k)), (3, .int 3)], [.int (nI B.length), .int (nI k)], M1)) rfl hR3 rfl hi7 rfl ?_
  refine ps_st (S' := (47, [(0, .ref m0), (1, .int t), (2, .int (nI k)), (3, .int 3)], [.int (nI B.length), .int (nI k)], M1)) rfl rfl rfl ?_
  refine ps_if2 (S1 := (52, [(0, .ref m0), (1, .int t), (2, .int (nI k)), (3, .int 3)], [], M1)) (S2 := (50, [], [], M1)) rfl rfl rfl (fun c_47 => ?_) (fun c_47 => ?_)
  rotate_left
  · exact absurd ((lt_nI (p := k) (n := B.length) (by omega) (by omega)).mpr hk) (of_decide_eq_false c_47)
  refine ps_st (S' := (53, [(0, .ref m0), (1, .int t), (2, .int (nI k)), (3, .int 3)], [.int 3], M1)) rfl rfl rfl ?_
  refine ps_st (S' := (148, [(0, .ref m0), (1, .int t), (2, .int (nI k)), (3, .int 3)], [], M1)) rfl rfl rfl ?_
  refine ps_st (S' := (149, [(0, .ref m0), (1, .int t), (2, .int (nI k)), (3, .int 3)], [.int t], M1)) rfl rfl rfl ?_
  refine ps_if (S1 := (161, [(0, .ref m0), (1, .int t), (2, .int (nI k)), (3, .int 3)], [], M1)) (S2 := (152, [(0, .ref m0), (1, .int t), (2, .int (nI k)), (3, .int 3)], [], M1)) rfl rfl rfl (fun c_149 => ?_) (fun c_149 => ?_)
  · exact absurd (of_decide_eq_true c_149) (ht)
  refine ps_st (S' := (153, [(0, .ref m0), (1, .int t), (2, .int (nI k)), (3, .int 3)], [.ref m0], M1)) rfl rfl rfl ?_
  refine pr_ref (j := 43) (S' := (156, [(0, .ref m0), (1, .int t), (2, .int (nI k)), (3, .int 3)], [.ref (q 43)], M1)) rfl hR3 rfl rfl ?_
  refine ps_st (S' := (157, [(0, .ref m0), (1, .int t), (2, .int (nI k)), (3, .int 3)], [.int (nI k), .ref (q 43)], M1)) rfl rfl rfl ?_
  refine pr_ld (a := 43) (j := k) (y := (nI (mK f n E (B.getD k 0)).1)) (S' := (158, [(0, .ref m0), (1, .int t), (2, .int (nI k)), (3, .int 3)], [.int (nI (mK f n E (B.getD k 0)).1)], M1)) rfl hR3 rfl (by omega) (fun _ => g9.2.1.2.1) rfl (fun i1_157 => ?_)
  refine ps_st (S' := (167, [], [.int (nI (mK f n E (B.getD k 0)).1)], M1)) rfl rfl rfl ?_
  exact ps_reti rfl (⟨I2, R, rfl, hR3, hEI9, hER, hi4⟩)
set_option maxHeartbeats 1000000 in
theorem rd_memberM4 {g : xe_G} {m0 : Nat} {q : Nat → Nat} {z : Nat × Nat} {I : rI} {R : rR} {M : mi_H} {f : Nat → Int32} {n n2 k : Nat} {E : List (Nat × Nat)} {B : List Nat} {t : Int32} (hR : RS g m0 q z I R M) (hi18 : I 18 = some (nI n2)) (hi26 : I 26 = some (nI B.length)) (hQ : MQX f n E B 0 B.length I R) (hn2 : n2 ≤ 65540) (ht : ¬ t = 0) (hk : k < B.length) (hBl : B.length < 65536) : pt (mT g) 223 [.ref m0, .int t, .int (nI k), .int 4] M (fun v M' => (∃  (I' : rI) (R' : rR), v = some (.int (if (mK f n E (B.getD k 0)).2.1 = 0 then 0 else nI (by4 f ((mK f n E (B.getD k 0)).2.1 + 10)))) ∧ RS g m0 q z I' R' M' ∧ eqI [0] I I' ∧ eqR [] R R' ∧ I' 0 = some 0)) := by
  refine pt_in (b := mb_223 g) rfl (fun kf => ?_)
  show pl (mT g) kf (mb_223 g).2 (0, [(0, .ref m0), (1, .int t), (2, .int (nI k)), (3, .int 4)], [], M) _
  have hEI : eqI [0] I I := eqI.rf
  have hER : eqR [] R R := eqR.rf
  have g9 := hQ k hk
  rw [Nat.zero_add] at g9
  refine ps_st (S' := (1, [(0, .ref m0), (1, .int t), (2, .int (nI k)), (3, .int 4)], [.ref m0], M)) rfl rfl rfl ?_
  refine ps_st (S' := (2, [(0, .ref m0), (1, .int t), (2, .int (nI k)), (3, .int 4)], [.int 0, .ref m0], M)) rfl rfl rfl ?_
  refine pr_put (j := 0) rfl hR rfl (fun M1 I2 hR3 hi4 hI5 => ?_)
  have hi6 := (hI5 18 (by decide)).trans hi18
  have hi7 := (hI5 26 (by decide)).trans hi26
  have hQ_8 := hQ.mono (pIx hI5 (by decide)) (fun _ _ => rfl)
  have hEI9 := hEI.put hI5 (by decide)
  show pl _ _ _ (5, [(0, .ref m0), (1, .int t), (2, .int (nI k)), (3, .int 4)], [], M1) _
  refine ps_st (S' := (6, [(0, .ref m0), (1, .int t), (2, .int (nI k)), (3, .int 4)], [.int 4], M1)) rfl rfl rfl ?_
  refine ps_if (S1 := (15, [(0, .ref m0)], [], M1)) (S2 := (9, [(0, .ref m0), (1, .int t), (2, .int (nI k)), (3, .int 4)], [], M1)) rfl rfl rfl (fun c_6 => ?_) (fun c_6 => ?_)
  · exact absurd (of_decide_eq_true c_6) (by decide)
  refine ps_st (S' := (10, [(0, .ref m0), (1, .int t), (2, .int (nI k)), (3, .int 4)], [.int 4], M1)) rfl rfl rfl ?_
  refine ps_st (S' := (12, [(0, .ref m0), (1, .int t), (2, .int (nI k)), (3, .int 4)], [.int 9, .int 4], M1)) rfl rfl rfl ?_
  refine ps_if2 (S1 := (20, [(0, .ref m0), (1, .int t), (2, .int (nI k)), (3, .int 4)], [], M1)) (S2 := (15, [(0, .ref m0)], [], M1)) rfl rfl rfl (fun c_12 => ?_) (fun c_12 => ?_)
  rotate_left
  · exact absurd (by decide) (of_decide_eq_false c_12)
  refine ps_st (S' := (21, [(0, .ref m0), (1, .int t), (2, .int (nI k)), (3, .int 4)], [.ref m0], M1)) rfl rfl rfl ?_
  refine pr_int (j := 18) (S' := (24, [(0, .ref m0), (1, .int t), (2, .int (nI k)), (3, .int 4)], [.int (nI n2)], M1)) rfl hR3 rfl hi6 rfl ?_
  refine ps_if (S1 := (50, [], [], M1)) (S2 := (27, [(0, .ref m0), (1, .int t), (2, .int (nI k)), (3, .int 4)], [], M1)) rfl rfl rfl (fun c_24 => ?_) (fun c_24 => ?_)
  · exact absurd (of_decide_eq_true c_24) (nI_n0 (by omega))
  refine ps_st (S' := (28, [(0, .ref m0), (1, .int t), (2, .int (nI k)), (3, .int 4)], [.int (nI k)], M1)) rfl rfl rfl ?_
  refine ps_if (S1 := (50, [], [], M1)) (S2 := (31, [(0, .ref m0), (1, .int t), (2, .int (nI k)), (3, .int 4)], [], M1)) rfl rfl rfl (fun c_28 => ?_) (fun c_28 => ?_)
  · exact absurd (of_decide_eq_true c_28) (nI_n0 (by omega))
  refine ps_st (S' := (32, [(0, .ref m0), (1, .int t), (2, .int (nI k)), (3, .int 4)], [.int (nI k)], M1)) rfl rfl rfl ?_
  refine ps_st (S' := (33, [(0, .ref m0), (1, .int t), (2, .int (nI k)), (3, .int 4)], [.int t, .int (nI k)], M1)) rfl rfl rfl ?_
  refine ps_if (S1 := (43, [(0, .ref m0), (1, .int t), (2, .int (nI k)), (3, .int 4)], [.int (nI k)], M1)) (S2 := (36, [(0, .ref m0), (1, .int t), (2, .int (nI k)), (3, .int 4)], [.int (nI k)], M1)) rfl rfl rfl (fun c_33 => ?_) (fun c_33 => ?_)
  · exact absurd (of_decide_eq_true c_33) (ht)
  refine ps_st (S' := (37, [(0, .ref m0), (1, .int t), (2, .int (nI k)), (3, .int 4)], [.ref m0, .int (nI k)], M1)) rfl rfl rfl ?_
  refine pr_int (j := 26) (S' := (40, [(0, .ref m0), (1, .int t), (2, .int (nI k)), (3, .int 4)], [.int (nI B.length), .int (nI k)], M1)) rfl hR3 rfl hi7 rfl ?_
  refine ps_st (S' := (47, [(0, .ref m0), (1, .int t), (2, .int (nI k)), (3, .int 4)], [.int (nI B.length), .int (nI k)], M1)) rfl rfl rfl ?_
  refine ps_if2 (S1 := (52, [(0, .ref m0), (1, .int t), (2, .int (nI k)), (3, .int 4)], [], M1)) (S2 := (50, [], [], M1)) rfl rfl rfl (fun c_47 => ?_) (fun c_47 => ?_)
  rotate_left
  · exact absurd ((lt_nI (p := k) (n := B.length) (by omega) (by omega)).mpr hk) (of_decide_eq_false c_47)
  refine ps_st (S' := (53, [(0, .ref m0), (1, .int t), (2, .int (nI k)), (3, .int 4)], [.int 4], M1)) rfl rfl rfl ?_
  refine ps_st (S' := (168, [(0, .ref m0), (1, .int t), (2, .int (nI k)), (3, .int 4)], [], M1)) rfl rfl rfl ?_
  refine ps_st (S' := (169, [(0, .ref m0), (1, .int t), (2, .int (nI k)), (3, .int 4)], [.int t], M1)) rfl rfl rfl ?_
  refine ps_if (S1 := (181, [(0, .ref m0), (1, .int t), (2, .int (nI k)), (3, .int 4)], [], M1)) (S2 := (172, [(0, .ref m0), (1, .int t), (2, .int (nI k)), (3, .int 4)], [], M1)) rfl rfl rfl (fun c_169 => ?_) (fun c_169 => ?_)
  · exact absurd (of_decide_eq_true c_169) (ht)
  refine ps_st (S' := (173, [(0, .ref m0), (1, .int t), (2, .int (nI k)), (3, .int 4)], [.ref m0], M1)) rfl rfl rfl ?_
  refine pr_ref (j := 38) (S' := (176, [(0, .ref m0), (1, .int t), (2, .int (nI k)), (3, .int 4)], [.ref (q 38)], M1)) rfl hR3 rfl rfl ?_
  refine ps_st (S' := (177, [(0, .ref m0), (1, .int t), (2, .int (nI k)), (3, .int 4)], [.int (nI k), .ref (q 38)], M1)) rfl rfl rfl ?_
  refine pr_ld (a := 38) (j := k) (y := (if (mK f n E (B.getD k 0)).2.1 = 0 then 0 else nI (by4 f ((mK f n E (B.getD k 0)).2.1 + 10)))) (S' := (178, [(0, .ref m0), (1, .int t), (2, .int (nI k)), (3, .int 4)], [.int (if (mK f n E (B.getD k 0)).2.1 = 0 then 0 else nI (by4 f ((mK f n E (B.getD k 0)).2.1 + 10)))], M1)) rfl hR3 rfl (by omega) (fun _ => g9.2.1.1.2.1) rfl (fun i1_177 => ?_)
  refine ps_st (S' := (187, [], [.int (if (mK f n E (B.getD k 0)).2.1 = 0 then 0 else nI (by4 f ((mK f n E (B.getD k 0)).2.1 + 10)))], M1)) rfl rfl rfl ?_
  exact ps_reti rfl (⟨I2, R, rfl, hR3, hEI9, hER, hi4⟩)
set_option maxHeartbeats 1000000 in
theorem rd_memberM5 {g : xe_G} {m0 : Nat} {q : Nat → Nat} {z : Nat × Nat} {I : rI} {R : rR} {M : mi_H} {f : Nat → Int32} {n n2 k : Nat} {E : List (Nat × Nat)} {B : List Nat} {t : Int32} (hR : RS g m0 q z I R M) (hi18 : I 18 = some (nI n2)) (hi26 : I 26 = some (nI B.length)) (hQ : MQX f n E B 0 B.length I R) (hn2 : n2 ≤ 65540) (ht : ¬ t = 0) (hk : k < B.length) (hBl : B.length < 65536) : pt (mT g) 223 [.ref m0, .int t, .int (nI k), .int 5] M (fun v M' => (∃  (I' : rI) (R' : rR), v = some (.int (if (mK f n E (B.getD k 0)).2.1 = 0 then 0 else nI (by2 f ((mK f n E (B.getD k 0)).2.1 + 6)))) ∧ RS g m0 q z I' R' M' ∧ eqI [0] I I' ∧ eqR [] R R' ∧ I' 0 = some 0)) := by
  refine pt_in (b := mb_223 g) rfl (fun kf => ?_)
  show pl (mT g) kf (mb_223 g).2 (0, [(0, .ref m0), (1, .int t), (2, .int (nI k)), (3, .int 5)], [], M) _
  have hEI : eqI [0] I I := eqI.rf
  have hER : eqR [] R R := eqR.rf
  have g9 := hQ k hk
  rw [Nat.zero_add] at g9
  refine ps_st (S' := (1, [(0, .ref m0), (1, .int t), (2, .int (nI k)), (3, .int 5)], [.ref m0], M)) rfl rfl rfl ?_
  refine ps_st (S' := (2, [(0, .ref m0), (1, .int t), (2, .int (nI k)), (3, .int 5)], [.int 0, .ref m0], M)) rfl rfl rfl ?_
  refine pr_put (j := 0) rfl hR rfl (fun M1 I2 hR3 hi4 hI5 => ?_)
  have hi6 := (hI5 18 (by decide)).trans hi18
  have hi7 := (hI5 26 (by decide)).trans hi26
  have hQ_8 := hQ.mono (pIx hI5 (by decide)) (fun _ _ => rfl)
  have hEI9 := hEI.put hI5 (by decide)
  show pl _ _ _ (5, [(0, .ref m0), (1, .int t), (2, .int (nI k)), (3, .int 5)], [], M1) _
  refine ps_st (S' := (6, [(0, .ref m0), (1, .int t), (2, .int (nI k)), (3, .int 5)], [.int 5], M1)) rfl rfl rfl ?_
  refine ps_if (S1 := (15, [(0, .ref m0)], [], M1)) (S2 := (9, [(0, .ref m0), (1, .int t), (2, .int (nI k)), (3, .int 5)], [], M1)) rfl rfl rfl (fun c_6 => ?_) (fun c_6 => ?_)
  · exact absurd (of_decide_eq_true c_6) (by decide)
  refine ps_st (S' := (10, [(0, .ref m0), (1, .int t), (2, .int (nI k)), (3, .int 5)], [.int 5], M1)) rfl rfl rfl ?_
  refine ps_st (S' := (12, [(0, .ref m0), (1, .int t), (2, .int (nI k)), (3, .int 5)], [.int 9, .int 5], M1)) rfl rfl rfl ?_
  refine ps_if2 (S1 := (20, [(0, .ref m0), (1, .int t), (2, .int (nI k)), (3, .int 5)], [], M1)) (S2 := (15, [(0, .ref m0)], [], M1)) rfl rfl rfl (fun c_12 => ?_) (fun c_12 => ?_)
  rotate_left
  · exact absurd (by decide) (of_decide_eq_false c_12)
  refine ps_st (S' := (21, [(0, .ref m0), (1, .int t), (2, .int (nI k)), (3, .int 5)], [.ref m0], M1)) rfl rfl rfl ?_
  refine pr_int (j := 18) (S' := (24, [(0, .ref m0), (1, .int t), (2, .int (nI k)), (3, .int 5)], [.int (nI n2)], M1)) rfl hR3 rfl hi6 rfl ?_
  refine ps_if (S1 := (50, [], [], M1)) (S2 := (27, [(0, .ref m0), (1, .int t), (2, .int (nI k)), (3, .int 5)], [], M1)) rfl rfl rfl (fun c_24 => ?_) (fun c_24 => ?_)
  · exact absurd (of_decide_eq_true c_24) (nI_n0 (by omega))
  refine ps_st (S' := (28, [(0, .ref m0), (1, .int t), (2, .int (nI k)), (3, .int 5)], [.int (nI k)], M1)) rfl rfl rfl ?_
  refine ps_if (S1 := (50, [], [], M1)) (S2 := (31, [(0, .ref m0), (1, .int t), (2, .int (nI k)), (3, .int 5)], [], M1)) rfl rfl rfl (fun c_28 => ?_) (fun c_28 => ?_)
  · exact absurd (of_decide_eq_true c_28) (nI_n0 (by omega))
  refine ps_st (S' := (32, [(0, .ref m0), (1, .int t), (2, .int (nI k)), (3, .int 5)], [.int (nI k)], M1)) rfl rfl rfl ?_
  refine ps_st (S' := (33, [(0, .ref m0), (1, .int t), (2, .int (nI k)), (3, .int 5)], [.int t, .int (nI k)], M1)) rfl rfl rfl ?_
  refine ps_if (S1 := (43, [(0, .ref m0), (1, .int t), (2, .int (nI k)), (3, .int 5)], [.int (nI k)], M1)) (S2 := (36, [(0, .ref m0), (1, .int t), (2, .int (nI k)), (3, .int 5)], [.int (nI k)], M1)) rfl rfl rfl (fun c_33 => ?_) (fun c_33 => ?_)
  · exact absurd (of_decide_eq_true c_33) (ht)
  refine ps_st (S' := (37, [(0, .ref m0), (1, .int t), (2, .int (nI k)), (3, .int 5)], [.ref m0, .int (nI k)], M1)) rfl rfl rfl ?_
  refine pr_int (j := 26) (S' := (40, [(0, .ref m0), (1, .int t), (2, .int (nI k)), (3, .int 5)], [.int (nI B.length), .int (nI k)], M1)) rfl hR3 rfl hi7 rfl ?_
  refine ps_st (S' := (47, [(0, .ref m0), (1, .int t), (2, .int (nI k)), (3, .int 5)], [.int (nI B.length), .int (nI k)], M1)) rfl rfl rfl ?_
  refine ps_if2 (S1 := (52, [(0, .ref m0), (1, .int t), (2, .int (nI k)), (3, .int 5)], [], M1)) (S2 := (50, [], [], M1)) rfl rfl rfl (fun c_47 => ?_) (fun c_47 => ?_)
  rotate_left
  · exact absurd ((lt_nI (p := k) (n := B.length) (by omega) (by omega)).mpr hk) (of_decide_eq_false c_47)
  refine ps_st (S' := (53, [(0, .ref m0), (1, .int t), (2, .int (nI k)), (3, .int 5)], [.int 5], M1)) rfl rfl rfl ?_
  refine ps_st (S' := (188, [(0, .ref m0), (1, .int t), (2, .int (nI k)), (3, .int 5)], [], M1)) rfl rfl rfl ?_
  refine ps_st (S' := (189, [(0, .ref m0), (1, .int t), (2, .int (nI k)), (3, .int 5)], [.int t], M1)) rfl rfl rfl ?_
  refine ps_if (S1 := (194, [(0, .ref m0), (1, .int t), (2, .int (nI k)), (3, .int 5)], [], M1)) (S2 := (192, [(0, .ref m0), (1, .int t), (2, .int (nI k)), (3, .int 5)], [], M1)) rfl rfl rfl (fun c_189 => ?_) (fun c_189 => ?_)
  rotate_left
  · exact absurd (ht) (of_decide_eq_false c_189)
  refine ps_st (S' := (195, [(0, .ref m0), (1, .int t), (2, .int (nI k)), (3, .int 5)], [.int 5], M1)) rfl rfl rfl ?_
  refine ps_st (S' := (196, [(0, .ref m0), (1, .int t), (2, .int (nI k)), (3, .int 5)], [.int 5, .int 5], M1)) rfl rfl rfl ?_
  refine ps_if2 (S1 := (208, [(0, .ref m0), (1, .int t), (2, .int (nI k)), (3, .int 5)], [], M1)) (S2 := (199, [(0, .ref m0), (1, .int t), (2, .int (nI k)), (3, .int 5)], [], M1)) rfl rfl rfl (fun c_196 => ?_) (fun c_196 => ?_)
  · exact absurd (of_decide_eq_true c_196) (by decide)
  refine ps_st (S' := (200, [(0, .ref m0), (1, .int t), (2, .int (nI k)), (3, .int 5)], [.ref m0], M1)) rfl rfl rfl ?_
  refine pr_ref (j := 39) (S' := (203, [(0, .ref m0), (1, .int t), (2, .int (nI k)), (3, .int 5)], [.ref (q 39)], M1)) rfl hR3 rfl rfl ?_
  refine ps_st (S' := (204, [(0, .ref m0), (1, .int t), (2, .int (nI k)), (3, .int 5)], [.int (nI k), .ref (q 39)], M1)) rfl rfl rfl ?_
  refine pr_ld (a := 39) (j := k) (y := (if (mK f n E (B.getD k 0)).2.1 = 0 then 0 else nI (by2 f ((mK f n E (B.getD k 0)).2.1 + 6)))) (S' := (205, [(0, .ref m0), (1, .int t), (2, .int (nI k)), (3, .int 5)], [.int (if (mK f n E (B.getD k 0)).2.1 = 0 then 0 else nI (by2 f ((mK f n E (B.getD k 0)).2.1 + 6)))], M1)) rfl hR3 rfl (by omega) (fun _ => g9.2.1.1.2.2.1) rfl (fun i1_204 => ?_)
  refine ps_st (S' := (281, [], [.int (if (mK f n E (B.getD k 0)).2.1 = 0 then 0 else nI (by2 f ((mK f n E (B.getD k 0)).2.1 + 6)))], M1)) rfl rfl rfl ?_
  exact ps_reti rfl (⟨I2, R, rfl, hR3, hEI9, hER, hi4⟩)
set_option maxHeartbeats 1000000 in
theorem rd_memberM6 {g : xe_G} {m0 : Nat} {q : Nat → Nat} {z : Nat × Nat} {I : rI} {R : rR} {M : mi_H} {f : Nat → Int32} {n n2 k : Nat} {E : List (Nat × Nat)} {B : List Nat} {t : Int32} (hR : RS g m0 q z I R M) (hi18 : I 18 = some (nI n2)) (hi26 : I 26 = some (nI B.length)) (hQ : MQX f n E B 0 B.length I R) (hn2 : n2 ≤ 65540) (ht : ¬ t = 0) (hk : k < B.length) (hBl : B.length < 65536) : pt (mT g) 223 [.ref m0, .int t, .int (nI k), .int 6] M (fun v M' => (∃  (I' : rI) (R' : rR), v = some (.int (if (mK f n E (B.getD k 0)).2.1 = 0 then 0 else nI (by2 f ((mK f n E (B.getD k 0)).2.1 + 8)))) ∧ RS g m0 q z I' R' M' ∧ eqI [0] I I' ∧ eqR [] R R' ∧ I' 0 = some 0)) := by
  refine pt_in (b := mb_223 g) rfl (fun kf => ?_)
  show pl (mT g) kf (mb_223 g).2 (0, [(0, .ref m0), (1, .int t), (2, .int (nI k)), (3, .int 6)], [], M) _
  have hEI : eqI [0] I I := eqI.rf
  have hER : eqR [] R R := eqR.rf
  have g9 := hQ k hk
  rw [Nat.zero_add] at g9
  refine ps_st (S' := (1, [(0, .ref m0), (1, .int t), (2, .int (nI k)), (3, .int 6)], [.ref m0], M)) rfl rfl rfl ?_
  refine ps_st (S' := (2, [(0, .ref m0), (1, .int t), (2, .int (nI k)), (3, .int 6)], [.int 0, .ref m0], M)) rfl rfl rfl ?_
  refine pr_put (j := 0) rfl hR rfl (fun M1 I2 hR3 hi4 hI5 => ?_)
  have hi6 := (hI5 18 (by decide)).trans hi18
  have hi7 := (hI5 26 (by decide)).trans hi26
  have hQ_8 := hQ.mono (pIx hI5 (by decide)) (fun _ _ => rfl)
  have hEI9 := hEI.put hI5 (by decide)
  show pl _ _ _ (5, [(0, .ref m0), (1, .int t), (2, .int (nI k)), (3, .int 6)], [], M1) _
  refine ps_st (S' := (6, [(0, .ref m0), (1, .int t), (2, .int (nI k)), (3, .int 6)], [.int 6], M1)) rfl rfl rfl ?_
  refine ps_if (S1 := (15, [(0, .ref m0)], [], M1)) (S2 := (9, [(0, .ref m0), (1, .int t), (2, .int (nI k)), (3, .int 6)], [], M1)) rfl rfl rfl (fun c_6 => ?_) (fun c_6 => ?_)
  · exact absurd (of_decide_eq_true c_6) (by decide)
  refine ps_st (S' := (10, [(0, .ref m0), (1, .int t), (2, .int (nI k)), (3, .int 6)], [.int 6], M1)) rfl rfl rfl ?_
  refine ps_st (S' := (12, [(0, .ref m0), (1, .int t), (2, .int (nI k)), (3, .int 6)], [.int 9, .int 6], M1)) rfl rfl rfl ?_
  refine ps_if2 (S1 := (20, [(0, .ref m0), (1, .int t), (2, .int (nI k)), (3, .int 6)], [], M1)) (S2 := (15, [(0, .ref m0)], [], M1)) rfl rfl rfl (fun c_12 => ?_) (fun c_12 => ?_)
  rotate_left
  · exact absurd (by decide) (of_decide_eq_false c_12)
  refine ps_st (S' := (21, [(0, .ref m0), (1, .int t), (2, .int (nI k)), (3, .int 6)], [.ref m0], M1)) rfl rfl rfl ?_
  refine pr_int (j := 18) (S' := (24, [(0, .ref m0), (1, .int t), (2, .int (nI k)), (3, .int 6)], [.int (nI n2)], M1)) rfl hR3 rfl hi6 rfl ?_
  refine ps_if (S1 := (50, [], [], M1)) (S2 := (27, [(0, .ref m0), (1, .int t), (2, .int (nI k)), (3, .int 6)], [], M1)) rfl rfl rfl (fun c_24 => ?_) (fun c_24 => ?_)
  · exact absurd (of_decide_eq_true c_24) (nI_n0 (by omega))
  refine ps_st (S' := (28, [(0, .ref m0), (1, .int t), (2, .int (nI k)), (3, .int 6)], [.int (nI k)], M1)) rfl rfl rfl ?_
  refine ps_if (S1 := (50, [], [], M1)) (S2 := (31, [(0, .ref m0), (1, .int t), (2, .int (nI k)), (3, .int 6)], [], M1)) rfl rfl rfl (fun c_28 => ?_) (fun c_28 => ?_)
  · exact absurd (of_decide_eq_true c_28) (nI_n0 (by omega))
  refine ps_st (S' := (32, [(0, .ref m0), (1, .int t), (2, .int (nI k)), (3, .int 6)], [.int (nI k)], M1)) rfl rfl rfl ?_
  refine ps_st (S' := (33, [(0, .ref m0), (1, .int t), (2, .int (nI k)), (3, .int 6)], [.int t, .int (nI k)], M1)) rfl rfl rfl ?_
  refine ps_if (S1 := (43, [(0, .ref m0), (1, .int t), (2, .int (nI k)), (3, .int 6)], [.int (nI k)], M1)) (S2 := (36, [(0, .ref m0), (1, .int t), (2, .int (nI k)), (3, .int 6)], [.int (nI k)], M1)) rfl rfl rfl (fun c_33 => ?_) (fun c_33 => ?_)
  · exact absurd (of_decide_eq_true c_33) (ht)
  refine ps_st (S' := (37, [(0, .ref m0), (1, .int t), (2, .int (nI k)), (3, .int 6)], [.ref m0, .int (nI k)], M1)) rfl rfl rfl ?_
  refine pr_int (j := 26) (S' := (40, [(0, .ref m0), (1, .int t), (2, .int (nI k)), (3, .int 6)], [.int (nI B.length), .int (nI k)], M1)) rfl hR3 rfl hi7 rfl ?_
  refine ps_st (S' := (47, [(0, .ref m0), (1, .int t), (2, .int (nI k)), (3, .int 6)], [.int (nI B.length), .int (nI k)], M1)) rfl rfl rfl ?_
  refine ps_if2 (S1 := (52, [(0, .ref m0), (1, .int t), (2, .int (nI k)), (3, .int 6)], [], M1)) (S2 := (50, [], [], M1)) rfl rfl rfl (fun c_47 => ?_) (fun c_47 => ?_)
  rotate_left
  · exact absurd ((lt_nI (p := k) (n := B.length) (by omega) (by omega)).mpr hk) (of_decide_eq_false c_47)
  refine ps_st (S' := (53, [(0, .ref m0), (1, .int t), (2, .int (nI k)), (3, .int 6)], [.int 6], M1)) rfl rfl rfl ?_
  refine ps_st (S' := (188, [(0, .ref m0), (1, .int t), (2, .int (nI k)), (3, .int 6)], [], M1)) rfl rfl rfl ?_
  refine ps_st (S' := (189, [(0, .ref m0), (1, .int t), (2, .int (nI k)), (3, .int 6)], [.int t], M1)) rfl rfl rfl ?_
  refine ps_if (S1 := (194, [(0, .ref m0), (1, .int t), (2, .int (nI k)), (3, .int 6)], [], M1)) (S2 := (192, [(0, .ref m0), (1, .int t), (2, .int (nI k)), (3, .int 6)], [], M1)) rfl rfl rfl (fun c_189 => ?_) (fun c_189 => ?_)
  rotate_left
  · exact absurd (ht) (of_decide_eq_false c_189)
  refine ps_st (S' := (195, [(0, .ref m0), (1, .int t), (2, .int (nI k)), (3, .int 6)], [.int 6], M1)) rfl rfl rfl ?_
  refine ps_st (S' := (196, [(0, .ref m0), (1, .int t), (2, .int (nI k)), (3, .int 6)], [.int 5, .int 6], M1)) rfl rfl rfl ?_
  refine ps_if2 (S1 := (208, [(0, .ref m0), (1, .int t), (2, .int (nI k)), (3, .int 6)], [], M1)) (S2 := (199, [(0, .ref m0), (1, .int t), (2, .int (nI k)), (3, .int 6)], [], M1)) rfl rfl rfl (fun c_196 => ?_) (fun c_196 => ?_)
  rotate_left
  · exact absurd (by decide) (of_decide_eq_false c_196)
  refine ps_st (S' := (209, [(0, .ref m0), (1, .int t), (2, .int (nI k)), (3, .int 6)], [.int 6], M1)) rfl rfl rfl ?_
  refine ps_st (S' := (211, [(0, .ref m0), (1, .int t), (2, .int (nI k)), (3, .int 6)], [.int 6, .int 6], M1)) rfl rfl rfl ?_
  refine ps_if2 (S1 := (223, [(0, .ref m0), (1, .int t), (2, .int (nI k)), (3, .int 6)], [], M1)) (S2 := (214, [(0, .ref m0), (1, .int t), (2, .int (nI k)), (3, .int 6)], [], M1)) rfl rfl rfl (fun c_211 => ?_) (fun c_211 => ?_)
  · exact absurd (of_decide_eq_true c_211) (by decide)
  refine ps_st (S' := (215, [(0, .ref m0), (1, .int t), (2, .int (nI k)), (3, .int 6)], [.ref m0], M1)) rfl rfl rfl ?_
  refine pr_ref (j := 40) (S' := (218, [(0, .ref m0), (1, .int t), (2, .int (nI k)), (3, .int 6)], [.ref (q 40)], M1)) rfl hR3 rfl rfl ?_
  refine ps_st (S' := (219, [(0, .ref m0), (1, .int t), (2, .int (nI k)), (3, .int 6)], [.int (nI k), .ref (q 40)], M1)) rfl rfl rfl ?_
  refine pr_ld (a := 40) (j := k) (y := (if (mK f n E (B.getD k 0)).2.1 = 0 then 0 else nI (by2 f ((mK f n E (B.getD k 0)).2.1 + 8)))) (S' := (220, [(0, .ref m0), (1, .int t), (2, .int (nI k)), (3, .int 6)], [.int (if (mK f n E (B.getD k 0)).2.1 = 0 then 0 else nI (by2 f ((mK f n E (B.getD k 0)).2.1 + 8)))], M1)) rfl hR3 rfl (by omega) (fun _ => g9.2.1.1.2.2.2.1) rfl (fun i1_219 => ?_)
  refine ps_st (S' := (281, [], [.int (if (mK f n E (B.getD k 0)).2.1 = 0 then 0 else nI (by2 f ((mK f n E (B.getD k 0)).2.1 + 8)))], M1)) rfl rfl rfl ?_
  exact ps_reti rfl (⟨I2, R, rfl, hR3, hEI9, hER, hi4⟩)
set_option maxHeartbeats 1000000 in
theorem rd_memberM7 {g : xe_G} {m0 : Nat} {q : Nat → Nat} {z : Nat × Nat} {I : rI} {R : rR} {M : mi_H} {f : Nat → Int32} {n n2 k : Nat} {E : List (Nat × Nat)} {B : List Nat} {t : Int32} (hR : RS g m0 q z I R M) (hi18 : I 18 = some (nI n2)) (hi26 : I 26 = some (nI B.length)) (hQ : MQX f n E B 0 B.length I R) (hn2 : n2 ≤ 65540) (ht : ¬ t = 0) (hk : k < B.length) (hBl : B.length < 65536) : pt (mT g) 223 [.ref m0, .int t, .int (nI k), .int 7] M (fun v M' => (∃  (I' : rI) (R' : rR), v = some (.int (if (mK f n E (B.getD k 0)).2.1 = 0 then 0 else nI (by2 f ((mK f n E (B.getD k 0)).2.1 + 14 + by4 f ((mK f n E (B.getD k 0)).2.1 + 10))))) ∧ RS g m0 q z I' R' M' ∧ eqI [0] I I' ∧ eqR [] R R' ∧ I' 0 = some 0)) := by
  refine pt_in (b := mb_223 g) rfl (fun kf => ?_)
  show pl (mT g) kf (mb_223 g).2 (0, [(0, .ref m0), (1, .int t), (2, .int (nI k)), (3, .int 7)], [], M) _
  have hEI : eqI [0] I I := eqI.rf
  have hER : eqR [] R R := eqR.rf
  have g9 := hQ k hk
  rw [Nat.zero_add] at g9
  refine ps_st (S' := (1, [(0, .ref m0), (1, .int t), (2, .int (nI k)), (3, .int 7)], [.ref m0], M)) rfl rfl rfl ?_
  refine ps_st (S' := (2, [(0, .ref m0), (1, .int t), (2, .int (nI k)), (3, .int 7)], [.int 0, .ref m0], M)) rfl rfl rfl ?_
  refine pr_put (j := 0) rfl hR rfl (fun M1 I2 hR3 hi4 hI5 => ?_)
  have hi6 := (hI5 18 (by decide)).trans hi18
  have hi7 := (hI5 26 (by decide)).trans hi26
  have hQ_8 := hQ.mono (pIx hI5 (by decide)) (fun _ _ => rfl)
  have hEI9 := hEI.put hI5 (by decide)
  show pl _ _ _ (5, [(0, .ref m0), (1, .int t), (2, .int (nI k)), (3, .int 7)], [], M1) _
  refine ps_st (S' := (6, [(0, .ref m0), (1, .int t), (2, .int (nI k)), (3, .int 7)], [.int 7], M1)) rfl rfl rfl ?_
  refine ps_if (S1 := (15, [(0, .ref m0)], [], M1)) (S2 := (9, [(0, .ref m0), (1, .int t), (2, .int (nI k)), (3, .int 7)], [], M1)) rfl rfl rfl (fun c_6 => ?_) (fun c_6 => ?_)
  · exact absurd (of_decide_eq_true c_6) (by decide)
  refine ps_st (S' := (10, [(0, .ref m0), (1, .int t), (2, .int (nI k)), (3, .int 7)], [.int 7], M1)) rfl rfl rfl ?_
  refine ps_st (S' := (12, [(0, .ref m0), (1, .int t), (2, .int (nI k)), (3, .int 7)], [.int 9, .int 7], M1)) rfl rfl rfl ?_
  refine ps_if2 (S1 := (20, [(0, .ref m0), (1, .int t), (2, .int (nI k)), (3, .int 7)], [], M1)) (S2 := (15, [(0, .ref m0)], [], M1)) rfl rfl rfl (fun c_12 => ?_) (fun c_12 => ?_)
  rotate_left
  · exact absurd (by decide) (of_decide_eq_false c_12)
  refine ps_st (S' := (21, [(0, .ref m0), (1, .int t), (2, .int (nI k)), (3, .int 7)], [.ref m0], M1)) rfl rfl rfl ?_
  refine pr_int (j := 18) (S' := (24, [(0, .ref m0), (1, .int t), (2, .int (nI k)), (3, .int 7)], [.int (nI n2)], M1)) rfl hR3 rfl hi6 rfl ?_
  refine ps_if (S1 := (50, [], [], M1)) (S2 := (27, [(0, .ref m0), (1, .int t), (2, .int (nI k)), (3, .int 7)], [], M1)) rfl rfl rfl (fun c_24 => ?_) (fun c_24 => ?_)
  · exact absurd (of_decide_eq_true c_24) (nI_n0 (by omega))
  refine ps_st (S' := (28, [(0, .ref m0), (1, .int t), (2, .int (nI k)), (3, .int 7)], [.int (nI k)], M1)) rfl rfl rfl ?_
  refine ps_if (S1 := (50, [], [], M1)) (S2 := (31, [(0, .ref m0), (1, .int t), (2, .int (nI k)), (3, .int 7)], [], M1)) rfl rfl rfl (fun c_28 => ?_) (fun c_28 => ?_)
  · exact absurd (of_decide_eq_true c_28) (nI_n0 (by omega))
  refine ps_st (S' := (32, [(0, .ref m0), (1, .int t), (2, .int (nI k)), (3, .int 7)], [.int (nI k)], M1)) rfl rfl rfl ?_
  refine ps_st (S' := (33, [(0, .ref m0), (1, .int t), (2, .int (nI k)), (3, .int 7)], [.int t, .int (nI k)], M1)) rfl rfl rfl ?_
  refine ps_if (S1 := (43, [(0, .ref m0), (1, .int t), (2, .int (nI k)), (3, .int 7)], [.int (nI k)], M1)) (S2 := (36, [(0, .ref m0), (1, .int t), (2, .int (nI k)), (3, .int 7)], [.int (nI k)], M1)) rfl rfl rfl (fun c_33 => ?_) (fun c_33 => ?_)
  · exact absurd (of_decide_eq_true c_33) (ht)
  refine ps_st (S' := (37, [(0, .ref m0), (1, .int t), (2, .int (nI k)), (3, .int 7)], [.ref m0, .int (nI k)], M1)) rfl rfl rfl ?_
  refine pr_int (j := 26) (S' := (40, [(0, .ref m0), (1, .int t), (2, .int (nI k)), (3, .int 7)], [.int (nI B.length), .int (nI k)], M1)) rfl hR3 rfl hi7 rfl ?_
  refine ps_st (S' := (47, [(0, .ref m0), (1, .int t), (2, .int (nI k)), (3, .int 7)], [.int (nI B.length), .int (nI k)], M1)) rfl rfl rfl ?_
  refine ps_if2 (S1 := (52, [(0, .ref m0), (1, .int t), (2, .int (nI k)), (3, .int 7)], [], M1)) (S2 := (50, [], [], M1)) rfl rfl rfl (fun c_47 => ?_) (fun c_47 => ?_)
  rotate_left
  · exact absurd ((lt_nI (p := k) (n := B.length) (by omega) (by omega)).mpr hk) (of_decide_eq_false c_47)
  refine ps_st (S' := (53, [(0, .ref m0), (1, .int t), (2, .int (nI k)), (3, .int 7)], [.int 7], M1)) rfl rfl rfl ?_
  refine ps_st (S' := (188, [(0, .ref m0), (1, .int t), (2, .int (nI k)), (3, .int 7)], [], M1)) rfl rfl rfl ?_
  refine ps_st (S' := (189, [(0, .ref m0), (1, .int t), (2, .int (nI k)), (3, .int 7)], [.int t], M1)) rfl rfl rfl ?_
  refine ps_if (S1 := (194, [(0, .ref m0), (1, .int t), (2, .int (nI k)), (3, .int 7)], [], M1)) (S2 := (192, [(0, .ref m0), (1, .int t), (2, .int (nI k)), (3, .int 7)], [], M1)) rfl rfl rfl (fun c_189 => ?_) (fun c_189 => ?_)
  rotate_left
  · exact absurd (ht) (of_decide_eq_false c_189)
  refine ps_st (S' := (195, [(0, .ref m0), (1, .int t), (2, .int (nI k)), (3, .int 7)], [.int 7], M1)) rfl rfl rfl ?_
  refine ps_st (S' := (196, [(0, .ref m0), (1, .int t), (2, .int (nI k)), (3, .int 7)], [.int 5, .int 7], M1)) rfl rfl rfl ?_
  refine ps_if2 (S1 := (208, [(0, .ref m0), (1, .int t), (2, .int (nI k)), (3, .int 7)], [], M1)) (S2 := (199, [(0, .ref m0), (1, .int t), (2, .int (nI k)), (3, .int 7)], [], M1)) rfl rfl rfl (fun c_196 => ?_) (fun c_196 => ?_)
  rotate_left
  · exact absurd (by decide) (of_decide_eq_false c_196)
  refine ps_st (S' := (209, [(0, .ref m0), (1, .int t), (2, .int (nI k)), (3, .int 7)], [.int 7], M1)) rfl rfl rfl ?_
  refine ps_st (S' := (211, [(0, .ref m0), (1, .int t), (2, .int (nI k)), (3, .int 7)], [.int 6, .int 7], M1)) rfl rfl rfl ?_
  refine ps_if2 (S1 := (223, [(0, .ref m0), (1, .int t), (2, .int (nI k)), (3, .int 7)], [], M1)) (S2 := (214, [(0, .ref m0), (1, .int t), (2, .int (nI k)), (3, .int 7)], [], M1)) rfl rfl rfl (fun c_211 => ?_) (fun c_211 => ?_)
  rotate_left
  · exact absurd (by decide) (of_decide_eq_false c_211)
  refine ps_st (S' := (224, [(0, .ref m0), (1, .int t), (2, .int (nI k)), (3, .int 7)], [.int 7], M1)) rfl rfl rfl ?_
  refine ps_st (S' := (226, [(0, .ref m0), (1, .int t), (2, .int (nI k)), (3, .int 7)], [.int 7, .int 7], M1)) rfl rfl rfl ?_
  refine ps_if2 (S1 := (238, [(0, .ref m0), (1, .int t), (2, .int (nI k)), (3, .int 7)], [], M1)) (S2 := (229, [(0, .ref m0), (1, .int t), (2, .int (nI k)), (3, .int 7)], [], M1)) rfl rfl rfl (fun c_226 => ?_) (fun c_226 => ?_)
  · exact absurd (of_decide_eq_true c_226) (by decide)
  refine ps_st (S' := (230, [(0, .ref m0), (1, .int t), (2, .int (nI k)), (3, .int 7)], [.ref m0], M1)) rfl rfl rfl ?_
  refine pr_ref (j := 42) (S' := (233, [(0, .ref m0), (1, .int t), (2, .int (nI k)), (3, .int 7)], [.ref (q 42)], M1)) rfl hR3 rfl rfl ?_
  refine ps_st (S' := (234, [(0, .ref m0), (1, .int t), (2, .int (nI k)), (3, .int 7)], [.int (nI k), .ref (q 42)], M1)) rfl rfl rfl ?_
  refine pr_ld (a := 42) (j := k) (y := (if (mK f n E (B.getD k 0)).2.1 = 0 then 0 else nI (by2 f ((mK f n E (B.getD k 0)).2.1 + 14 + by4 f ((mK f n E (B.getD k 0)).2.1 + 10))))) (S' := (235, [(0, .ref m0), (1, .int t), (2, .int (nI k)), (3, .int 7)], [.int (if (mK f n E (B.getD k 0)).2.1 = 0 then 0 else nI (by2 f ((mK f n E (B.getD k 0)).2.1 + 14 + by4 f ((mK f n E (B.getD k 0)).2.1 + 10))))], M1)) rfl hR3 rfl (by omega) (fun _ => g9.2.1.1.2.2.2.2.2) rfl (fun i1_234 => ?_)
  refine ps_st (S' := (281, [], [.int (if (mK f n E (B.getD k 0)).2.1 = 0 then 0 else nI (by2 f ((mK f n E (B.getD k 0)).2.1 + 14 + by4 f ((mK f n E (B.getD k 0)).2.1 + 10))))], M1)) rfl rfl rfl ?_
  exact ps_reti rfl (⟨I2, R, rfl, hR3, hEI9, hER, hi4⟩)
set_option maxHeartbeats 1000000 in
theorem rd_memberM9 {g : xe_G} {m0 : Nat} {q : Nat → Nat} {z : Nat × Nat} {I : rI} {R : rR} {M : mi_H} {f : Nat → Int32} {n n2 k : Nat} {E : List (Nat × Nat)} {B : List Nat} {t : Int32} (hR : RS g m0 q z I R M) (hi18 : I 18 = some (nI n2)) (hi26 : I 26 = some (nI B.length)) (hQ : MQX f n E B 0 B.length I R) (hn2 : n2 ≤ 65540) (ht : ¬ t = 0) (hk : k < B.length) (hBl : B.length < 65536) : pt (mT g) 223 [.ref m0, .int t, .int (nI k), .int 9] M (fun v M' => (∃  (I' : rI) (R' : rR), v = some (.int (nI (mK f n E (B.getD k 0)).2.2)) ∧ RS g m0 q z I' R' M' ∧ eqI [0] I I' ∧ eqR [] R R' ∧ I' 0 = some 0)) := by
  refine pt_in (b := mb_223 g) rfl (fun kf => ?_)
  show pl (mT g) kf (mb_223 g).2 (0, [(0, .ref m0), (1, .int t), (2, .int (nI k)), (3, .int 9)], [], M) _
  have hEI : eqI [0] I I := eqI.rf
  have hER : eqR [] R R := eqR.rf
  have g9 := hQ k hk
  rw [Nat.zero_add] at g9
  refine ps_st (S' := (1, [(0, .ref m0), (1, .int t), (2, .int (nI k)), (3, .int 9)], [.ref m0], M)) rfl rfl rfl ?_
  refine ps_st (S' := (2, [(0, .ref m0), (1, .int t), (2, .int (nI k)), (3, .int 9)], [.int 0, .ref m0], M)) rfl rfl rfl ?_
  refine pr_put (j := 0) rfl hR rfl (fun M1 I2 hR3 hi4 hI5 => ?_)
  have hi6 := (hI5 18 (by decide)).trans hi18
  have hi7 := (hI5 26 (by decide)).trans hi26
  have hQ_8 := hQ.mono (pIx hI5 (by decide)) (fun _ _ => rfl)
  have hEI9 := hEI.put hI5 (by decide)
  show pl _ _ _ (5, [(0, .ref m0), (1, .int t), (2, .int (nI k)), (3, .int 9)], [], M1) _
  refine ps_st (S' := (6, [(0, .ref m0), (1, .int t), (2, .int (nI k)), (3, .int 9)], [.int 9], M1)) rfl rfl rfl ?_
  refine ps_if (S1 := (15, [(0, .ref m0)], [], M1)) (S2 := (9, [(0, .ref m0), (1, .int t), (2, .int (nI k)), (3, .int 9)], [], M1)) rfl rfl rfl (fun c_6 => ?_) (fun c_6 => ?_)
  · exact absurd (of_decide_eq_true c_6) (by decide)
  refine ps_st (S' := (10, [(0, .ref m0), (1, .int t), (2, .int (nI k)), (3, .int 9)], [.int 9], M1)) rfl rfl rfl ?_
  refine ps_st (S' := (12, [(0, .ref m0), (1, .int t), (2, .int (nI k)), (3, .int 9)], [.int 9, .int 9], M1)) rfl rfl rfl ?_
  refine ps_if2 (S1 := (20, [(0, .ref m0), (1, .int t), (2, .int (nI k)), (3, .int 9)], [], M1)) (S2 := (15, [(0, .ref m0)], [], M1)) rfl rfl rfl (fun c_12 => ?_) (fun c_12 => ?_)
  rotate_left
  · exact absurd (by decide) (of_decide_eq_false c_12)
  refine ps_st (S' := (21, [(0, .ref m0), (1, .int t), (2, .int (nI k)), (3, .int 9)], [.ref m0], M1)) rfl rfl rfl ?_
  refine pr_int (j := 18) (S' := (24, [(0, .ref m0), (1, .int t), (2, .int (nI k)), (3, .int 9)], [.int (nI n2)], M1)) rfl hR3 rfl hi6 rfl ?_
  refine ps_if (S1 := (50, [], [], M1)) (S2 := (27, [(0, .ref m0), (1, .int t), (2, .int (nI k)), (3, .int 9)], [], M1)) rfl rfl rfl (fun c_24 => ?_) (fun c_24 => ?_)
  · exact absurd (of_decide_eq_true c_24) (nI_n0 (by omega))
  refine ps_st (S' := (28, [(0, .ref m0), (1, .int t), (2, .int (nI k)), (3, .int 9)], [.int (nI k)], M1)) rfl rfl rfl ?_
  refine ps_if (S1 := (50, [], [], M1)) (S2 := (31, [(0, .ref m0), (1, .int t), (2, .int (nI k)), (3, .int 9)], [], M1)) rfl rfl rfl (fun c_28 => ?_) (fun c_28 => ?_)
  · exact absurd (of_decide_eq_true c_28) (nI_n0 (by omega))
  refine ps_st (S' := (32, [(0, .ref m0), (1, .int t), (2, .int (nI k)), (3, .int 9)], [.int (nI k)], M1)) rfl rfl rfl ?_
  refine ps_st (S' := (33, [(0, .ref m0), (1, .int t), (2, .int (nI k)), (3, .int 9)], [.int t, .int (nI k)], M1)) rfl rfl rfl ?_
  refine ps_if (S1 := (43, [(0, .ref m0), (1, .int t), (2, .int (nI k)), (3, .int 9)], [.int (nI k)], M1)) (S2 := (36, [(0, .ref m0), (1, .int t), (2, .int (nI k)), (3, .int 9)], [.int (nI k)], M1)) rfl rfl rfl (fun c_33 => ?_) (fun c_33 => ?_)
  · exact absurd (of_decide_eq_true c_33) (ht)
  refine ps_st (S' := (37, [(0, .ref m0), (1, .int t), (2, .int (nI k)), (3, .int 9)], [.ref m0, .int (nI k)], M1)) rfl rfl rfl ?_
  refine pr_int (j := 26) (S' := (40, [(0, .ref m0), (1, .int t), (2, .int (nI k)), (3, .int 9)], [.int (nI B.length), .int (nI k)], M1)) rfl hR3 rfl hi7 rfl ?_
  refine ps_st (S' := (47, [(0, .ref m0), (1, .int t), (2, .int (nI k)), (3, .int 9)], [.int (nI B.length), .int (nI k)], M1)) rfl rfl rfl ?_
  refine ps_if2 (S1 := (52, [(0, .ref m0), (1, .int t), (2, .int (nI k)), (3, .int 9)], [], M1)) (S2 := (50, [], [], M1)) rfl rfl rfl (fun c_47 => ?_) (fun c_47 => ?_)
  rotate_left
  · exact absurd ((lt_nI (p := k) (n := B.length) (by omega) (by omega)).mpr hk) (of_decide_eq_false c_47)
  refine ps_st (S' := (53, [(0, .ref m0), (1, .int t), (2, .int (nI k)), (3, .int 9)], [.int 9], M1)) rfl rfl rfl ?_
  refine ps_st (S' := (188, [(0, .ref m0), (1, .int t), (2, .int (nI k)), (3, .int 9)], [], M1)) rfl rfl rfl ?_
  refine ps_st (S' := (189, [(0, .ref m0), (1, .int t), (2, .int (nI k)), (3, .int 9)], [.int t], M1)) rfl rfl rfl ?_
  refine ps_if (S1 := (194, [(0, .ref m0), (1, .int t), (2, .int (nI k)), (3, .int 9)], [], M1)) (S2 := (192, [(0, .ref m0), (1, .int t), (2, .int (nI k)), (3, .int 9)], [], M1)) rfl rfl rfl (fun c_189 => ?_) (fun c_189 => ?_)
  rotate_left
  · exact absurd (ht) (of_decide_eq_false c_189)
  refine ps_st (S' := (195, [(0, .ref m0), (1, .int t), (2, .int (nI k)), (3, .int 9)], [.int 9], M1)) rfl rfl rfl ?_
  refine ps_st (S' := (196, [(0, .ref m0), (1, .int t), (2, .int (nI k)), (3, .int 9)], [.int 5, .int 9], M1)) rfl rfl rfl ?_
  refine ps_if2 (S1 := (208, [(0, .ref m0), (1, .int t), (2, .int (nI k)), (3, .int 9)], [], M1)) (S2 := (199, [(0, .ref m0), (1, .int t), (2, .int (nI k)), (3, .int 9)], [], M1)) rfl rfl rfl (fun c_196 => ?_) (fun c_196 => ?_)
  rotate_left
  · exact absurd (by decide) (of_decide_eq_false c_196)
  refine ps_st (S' := (209, [(0, .ref m0), (1, .int t), (2, .int (nI k)), (3, .int 9)], [.int 9], M1)) rfl rfl rfl ?_
  refine ps_st (S' := (211, [(0, .ref m0), (1, .int t), (2, .int (nI k)), (3, .int 9)], [.int 6, .int 9], M1)) rfl rfl rfl ?_
  refine ps_if2 (S1 := (223, [(0, .ref m0), (1, .int t), (2, .int (nI k)), (3, .int 9)], [], M1)) (S2 := (214, [(0, .ref m0), (1, .int t), (2, .int (nI k)), (3, .int 9)], [], M1)) rfl rfl rfl (fun c_211 => ?_) (fun c_211 => ?_)
  rotate_left
  · exact absurd (by decide) (of_decide_eq_false c_211)
  refine ps_st (S' := (224, [(0, .ref m0), (1, .int t), (2, .int (nI k)), (3, .int 9)], [.int 9], M1)) rfl rfl rfl ?_
  refine ps_st (S' := (226, [(0, .ref m0), (1, .int t), (2, .int (nI k)), (3, .int 9)], [.int 7, .int 9], M1)) rfl rfl rfl ?_
  refine ps_if2 (S1 := (238, [(0, .ref m0), (1, .int t), (2, .int (nI k)), (3, .int 9)], [], M1)) (S2 := (229, [(0, .ref m0), (1, .int t), (2, .int (nI k)), (3, .int 9)], [], M1)) rfl rfl rfl (fun c_226 => ?_) (fun c_226 => ?_)
  rotate_left
  · exact absurd (by decide) (of_decide_eq_false c_226)
  refine ps_st (S' := (239, [(0, .ref m0), (1, .int t), (2, .int (nI k)), (3, .int 9)], [.int 9], M1)) rfl rfl rfl ?_
  refine ps_st (S' := (241, [(0, .ref m0), (1, .int t), (2, .int (nI k)), (3, .int 9)], [.int 8, .int 9], M1)) rfl rfl rfl ?_
  refine ps_if2 (S1 := (275, [(0, .ref m0), (1, .int t), (2, .int (nI k)), (3, .int 9)], [], M1)) (S2 := (244, [(0, .ref m0), (1, .int t), (2, .int (nI k)), (3, .int 9)], [], M1)) rfl rfl rfl (fun c_241 => ?_) (fun c_241 => ?_)
  rotate_left
  · exact absurd (by decide) (of_decide_eq_false c_241)
  refine ps_st (S' := (276, [(0, .ref m0), (1, .int t), (2, .int (nI k)), (3, .int 9)], [.ref m0], M1)) rfl rfl rfl ?_
  refine pr_ref (j := 44) (S' := (279, [(0, .ref m0), (1, .int t), (2, .int (nI k)), (3, .int 9)], [.ref (q 44)], M1)) rfl hR3 rfl rfl ?_
  refine ps_st (S' := (280, [(0, .ref m0), (1, .int t), (2, .int (nI k)), (3, .int 9)], [.int (nI k), .ref (q 44)], M1)) rfl rfl rfl ?_
  refine pr_ld (a := 44) (j := k) (y := (nI (mK f n E (B.getD k 0)).2.2)) (S' := (281, [], [.int (nI (mK f n E (B.getD k 0)).2.2)], M1)) rfl hR3 rfl (by omega) (fun _ => g9.2.1.2.2) rfl (fun i1_280 => ?_)
  exact ps_reti rfl (⟨I2, R, rfl, hR3, hEI9, hER, hi4⟩)
set_option maxHeartbeats 1000000 in
theorem rd_memberM8 {g : xe_G} {m0 : Nat} {q : Nat → Nat} {z : Nat × Nat} {I : rI} {R : rR} {M : mi_H} {n : Nat} {f : Nat → Int32} {tx : List (List Nat)} {cN : Nat} {A : Nat → Nat} {N mj : Nat} {E : List (Nat × Nat)} {n2 : Nat} {k : Nat} {B : List Nat} {t : Int32} (hR : RS g m0 q z I R M) (hi18 : I 18 = some (nI n2)) (hi51 : I 51 = some 0) (hi52 : I 52 = some (nI N)) (hi53 : I 53 = some (nI mj)) (hi26 : I 26 = some (nI B.length)) (hF : FK n f I R) (hY : SYT tx cN A I R) (hP : RPV f n E tx N I R) (hQ : MQX f n E B 0 B.length I R) (hN9 : FN 35 36 f n E tx B 0 B.length I R) (hEP : EP f n E) (hN : N < 65536) (hmj : mj < 65536) (hn2 : n2 ≤ 65540) (ht : ¬ t = 0) (hk : k < B.length) (hBl : B.length < 65536) (hmt : ¬ mthN (tX f n E (by2 f (B.getD k 0 + 4))) = 0) : pt (mT g) 223 [.ref m0, .int t, .int (nI k), .int 8] M (fun v M' => (∃  (I' : rI) (R' : rR), v = some (.int (nI (apN f n E (B.getD k 0)))) ∧ RS g m0 q z I' R' M' ∧ eqI [0] I I' ∧ eqR [] R R' ∧ I' 0 = some 0)) := by
  refine pt_in (b := mb_223 g) rfl (fun kf => ?_)
  show pl (mT g) kf (mb_223 g).2 (0, [(0, .ref m0), (1, .int t), (2, .int (nI k)), (3, .int 8)], [], M) _
  have hEI : eqI [0] I I := eqI.rf
  have hER : eqR [] R R := eqR.rf
  have hn := hF.1
  have htl := hY.1.2.2.1
  have g9 := hQ k hk
  rw [Nat.zero_add] at g9
  obtain ⟨a9, d9, g1, g2, g3, g4, g5, g6⟩ := hN9 k hk
  rw [Nat.zero_add] at g1 g2
  have g7 := g4.1
  have hu8 := by2_lt f (B.getD k 0)
  refine ps_st (S' := (1, [(0, .ref m0), (1, .int t), (2, .int (nI k)), (3, .int 8)], [.ref m0], M)) rfl rfl rfl ?_
  refine ps_st (S' := (2, [(0, .ref m0), (1, .int t), (2, .int (nI k)), (3, .int 8)], [.int 0, .ref m0], M)) rfl rfl rfl ?_
  refine pr_put (j := 0) rfl hR rfl (fun M1 I2 hR3 hi4 hI5 => ?_)
  have hi6 := (hI5 18 (by decide)).trans hi18
  have hi7 := (hI5 51 (by decide)).trans hi51
  have hi8 := (hI5 52 (by decide)).trans hi52
  have hi9 := (hI5 53 (by decide)).trans hi53
  have hi10 := (hI5 26 (by decide)).trans hi26
  have hF_11 := hF.mono (pIx hI5 (by decide)) (fun _ _ => rfl)
  have hY_12 := hY.mono (pIx hI5 (by decide)) (fun _ _ => rfl)
  have hP_13 := hP.mono (pIx hI5 (by decide)) (fun _ _ => rfl)
  have hQ_14 := hQ.mono (pIx hI5 (by decide)) (fun _ _ => rfl)
  have hN9_15 := hN9.mono (pIx hI5 (by decide)) (fun _ _ => rfl)
  have hEI16 := hEI.put hI5 (by decide)
  show pl _ _ _ (5, [(0, .ref m0), (1, .int t), (2, .int (nI k)), (3, .int 8)], [], M1) _
  refine ps_st (S' := (6, [(0, .ref m0), (1, .int t), (2, .int (nI k)), (3, .int 8)], [.int 8], M1)) rfl rfl rfl ?_
  refine ps_if (S1 := (15, [(0, .ref m0)], [], M1)) (S2 := (9, [(0, .ref m0), (1, .int t), (2, .int (nI k)), (3, .int 8)], [], M1)) rfl rfl rfl (fun c_6 => ?_) (fun c_6 => ?_)
  · exact absurd (of_decide_eq_true c_6) (by decide)
  refine ps_st (S' := (10, [(0, .ref m0), (1, .int t), (2, .int (nI k)), (3, .int 8)], [.int 8], M1)) rfl rfl rfl ?_
  refine ps_st (S' := (12, [(0, .ref m0), (1, .int t), (2, .int (nI k)), (3, .int 8)], [.int 9, .int 8], M1)) rfl rfl rfl ?_
  refine ps_if2 (S1 := (20, [(0, .ref m0), (1, .int t), (2, .int (nI k)), (3, .int 8)], [], M1)) (S2 := (15, [(0, .ref m0)], [], M1)) rfl rfl rfl (fun c_12 => ?_) (fun c_12 => ?_)
  rotate_left
  · exact absurd (by decide) (of_decide_eq_false c_12)
  refine ps_st (S' := (21, [(0, .ref m0), (1, .int t), (2, .int (nI k)), (3, .int 8)], [.ref m0], M1)) rfl rfl rfl ?_
  refine pr_int (j := 18) (S' := (24, [(0, .ref m0), (1, .int t), (2, .int (nI k)), (3, .int 8)], [.int (nI n2)], M1)) rfl hR3 rfl hi6 rfl ?_
  refine ps_if (S1 := (50, [], [], M1)) (S2 := (27, [(0, .ref m0), (1, .int t), (2, .int (nI k)), (3, .int 8)], [], M1)) rfl rfl rfl (fun c_24 => ?_) (fun c_24 => ?_)
  · exact absurd (of_decide_eq_true c_24) (show ¬ ((nI n2) < 0) from fun h9 => absurd ((lt_nI (p := n2) (n := 0) (by omega) (by decide)).mp h9) (by omega))
  refine ps_st (S' := (28, [(0, .ref m0), (1, .int t), (2, .int (nI k)), (3, .int 8)], [.int (nI k)], M1)) rfl rfl rfl ?_
  refine ps_if (S1 := (50, [], [], M1)) (S2 := (31, [(0, .ref m0), (1, .int t), (2, .int (nI k)), (3, .int 8)], [], M1)) rfl rfl rfl (fun c_28 => ?_) (fun c_28 => ?_)
  · exact absurd (of_decide_eq_true c_28) (show ¬ ((nI k) < 0) from fun h9 => absurd ((lt_nI (p := k) (n := 0) (by omega) (by decide)).mp h9) (by omega))
  refine ps_st (S' := (32, [(0, .ref m0), (1, .int t), (2, .int (nI k)), (3, .int 8)], [.int (nI k)], M1)) rfl rfl rfl ?_
  refine ps_st (S' := (33, [(0, .ref m0), (1, .int t), (2, .int (nI k)), (3, .int 8)], [.int t, .int (nI k)], M1)) rfl rfl rfl ?_
  refine ps_if (S1 := (43, [(0, .ref m0), (1, .int t), (2, .int (nI k)), (3, .int 8)], [.int (nI k)], M1)) (S2 := (36, [(0, .ref m0), (1, .int t), (2, .int (nI k)), (3, .int 8)], [.int (nI k)], M1)) rfl rfl rfl (fun c_33 => ?_) (fun c_33 => ?_)
  · exact absurd (of_decide_eq_true c_33) (ht)
  refine ps_st (S' := (37, [(0, .ref m0), (1, .int t), (2, .int (nI k)), (3, .int 8)], [.ref m0, .int (nI k)], M1)) rfl rfl rfl ?_
  refine pr_int (j := 26) (S' := (40, [(0, .ref m0), (1, .int t), (2, .int (nI k)), (3, .int 8)], [.int (nI B.length), .int (nI k)], M1)) rfl hR3 rfl hi10 rfl ?_
  refine ps_st (S' := (47, [(0, .ref m0), (1, .int t), (2, .int (nI k)), (3, .int 8)], [.int (nI B.length), .int (nI k)], M1)) rfl rfl rfl ?_
  refine ps_if2 (S1 := (52, [(0, .ref m0), (1, .int t), (2, .int (nI k)), (3, .int 8)], [], M1)) (S2 := (50, [], [], M1)) rfl rfl rfl (fun c_47 => ?_) (fun c_47 => ?_)
  rotate_left
  · exact absurd ((lt_nI (p := k) (n := B.length) (by omega) (by omega)).mpr hk) (of_decide_eq_false c_47)
  refine ps_st (S' := (53, [(0, .ref m0), (1, .int t), (2, .int (nI k)), (3, .int 8)], [.int 8], M1)) rfl rfl rfl ?_
  refine ps_st (S' := (188, [(0, .ref m0), (1, .int t), (2, .int (nI k)), (3, .int 8)], [], M1)) rfl rfl rfl ?_
  refine ps_st (S' := (189, [(0, .ref m0), (1, .int t), (2, .int (nI k)), (3, .int 8)], [.int t], M1)) rfl rfl rfl ?_
  refine ps_if (S1 := (194, [(0, .ref m0), (1, .int t), (2, .int (nI k)), (3, .int 8)], [], M1)) (S2 := (192, [(0, .ref m0), (1, .int t), (2, .int (nI k)), (3, .int 8)], [], M1)) rfl rfl rfl (fun c_189 => ?_) (fun c_189 => ?_)
  rotate_left
  · exact absurd (ht) (of_decide_eq_false c_189)
  refine ps_st (S' := (195, [(0, .ref m0), (1, .int t), (2, .int (nI k)), (3, .int 8)], [.int 8], M1)) rfl rfl rfl ?_
  refine ps_st (S' := (196, [(0, .ref m0), (1, .int t), (2, .int (nI k)), (3, .int 8)], [.int 5, .int 8], M1)) rfl rfl rfl ?_
  refine ps_if2 (S1 := (208, [(0, .ref m0), (1, .int t), (2, .int (nI k)), (3, .int 8)], [], M1)) (S2 := (199, [(0, .ref m0), (1, .int t), (2, .int (nI k)), (3, .int 8)], [], M1)) rfl rfl rfl (fun c_196 => ?_) (fun c_196 => ?_)
  rotate_left
  · exact absurd (by decide) (of_decide_eq_false c_196)
  refine ps_st (S' := (209, [(0, .ref m0), (1, .int t), (2, .int (nI k)), (3, .int 8)], [.int 8], M1)) rfl rfl rfl ?_
  refine ps_st (S' := (211, [(0, .ref m0), (1, .int t), (2, .int (nI k)), (3, .int 8)], [.int 6, .int 8], M1)) rfl rfl rfl ?_
  refine ps_if2 (S1 := (223, [(0, .ref m0), (1, .int t), (2, .int (nI k)), (3, .int 8)], [], M1)) (S2 := (214, [(0, .ref m0), (1, .int t), (2, .int (nI k)), (3, .int 8)], [], M1)) rfl rfl rfl (fun c_211 => ?_) (fun c_211 => ?_)
  rotate_left
  · exact absurd (by decide) (of_decide_eq_false c_211)
  refine ps_st (S' := (224, [(0, .ref m0), (1, .int t), (2, .int (nI k)), (3, .int 8)], [.int 8], M1)) rfl rfl rfl ?_
  refine ps_st (S' := (226, [(0, .ref m0), (1, .int t), (2, .int (nI k)), (3, .int 8)], [.int 7, .int 8], M1)) rfl rfl rfl ?_
  refine ps_if2 (S1 := (238, [(0, .ref m0), (1, .int t), (2, .int (nI k)), (3, .int 8)], [], M1)) (S2 := (229, [(0, .ref m0), (1, .int t), (2, .int (nI k)), (3, .int 8)], [], M1)) rfl rfl rfl (fun c_226 => ?_) (fun c_226 => ?_)
  rotate_left
  · exact absurd (by decide) (of_decide_eq_false c_226)
  refine ps_st (S' := (239, [(0, .ref m0), (1, .int t), (2, .int (nI k)), (3, .int 8)], [.int 8], M1)) rfl rfl rfl ?_
  refine ps_st (S' := (241, [(0, .ref m0), (1, .int t), (2, .int (nI k)), (3, .int 8)], [.int 8, .int 8], M1)) rfl rfl rfl ?_
  refine ps_if2 (S1 := (275, [(0, .ref m0), (1, .int t), (2, .int (nI k)), (3, .int 8)], [], M1)) (S2 := (244, [(0, .ref m0), (1, .int t), (2, .int (nI k)), (3, .int 8)], [], M1)) rfl rfl rfl (fun c_241 => ?_) (fun c_241 => ?_)
  · exact absurd (of_decide_eq_true c_241) (by decide)
  refine ps_st (S' := (245, [(0, .ref m0), (1, .int t), (2, .int (nI k)), (3, .int 8)], [.ref m0], M1)) rfl rfl rfl ?_
  refine ps_st (S' := (246, [(0, .ref m0), (1, .int t), (2, .int (nI k)), (3, .int 8)], [.ref m0, .ref m0], M1)) rfl rfl rfl ?_
  refine pr_ref (j := 36) (S' := (249, [(0, .ref m0), (1, .int t), (2, .int (nI k)), (3, .int 8)], [.ref (q 36), .ref m0], M1)) rfl hR3 rfl rfl ?_
  refine ps_st (S' := (250, [(0, .ref m0), (1, .int t), (2, .int (nI k)), (3, .int 8)], [.int (nI k), .ref (q 36), .ref m0], M1)) rfl rfl rfl ?_
  refine pr_ld (a := 36) (j := k) (y := (nI d9)) (S' := (251, [(0, .ref m0), (1, .int t), (2, .int (nI k)), (3, .int 8)], [.int (nI d9), .ref m0], M1)) rfl hR3 rfl (by omega) (fun _ => g2) rfl (fun i1_250 => ?_)
  obtain ⟨-, -, k_251, W_251, hq1_251, hq2_251, hq3_251, hq4_251, hq5_251, hq6_251, -⟩ := mth_in (l := (tX f n E (by2 f (B.getD k 0 + 4)))) (by omega)
  refine pl_call (a := [.ref m0, .int (nI d9)]) (rest := []) rfl rfl rfl (rd_places0 (tx := tx) (cN := cN) (A := A) (s := d9) (l := (tX f n E (by2 f (B.getD k 0 + 4)))) (k0 := k_251) (W := W_251) hR3 hY_12 (g4) (hq1_251) (⟨by omega, hq5_251⟩)) (fun v17 M18 q19 => ?_)
  obtain ⟨rfl, rfl⟩ := q19
  show pl _ _ _ (254, [(0, .ref m0), (1, .int t), (2, .int (nI k)), (3, .int 8)], [.int (nI (W_251))], M1) _
  rw [← hq6_251]
  show pl _ _ _ (_, [(0, .ref m0), (1, .int t), (2, .int (nI k)), (3, .int 8)], [.int (nI (argN (tX f n E (by2 f (B.getD k 0 + 4)))))], M1) _
  have hal_251 := argN_lt (tX f n E (by2 f (B.getD k 0 + 4)))
  refine ps_st (S' := (255, [(0, .ref m0), (1, .int t), (2, .int (nI k)), (3, .int 8)], [.ref m0, .int (nI (argN (tX f n E (by2 f (B.getD k 0 + 4)))))], M1)) rfl rfl rfl ?_
  refine pr_ref (j := 34) (S' := (258, [(0, .ref m0), (1, .int t), (2, .int (nI k)), (3, .int 8)], [.ref (q 34), .int (nI (argN (tX f n E (by2 f (B.getD k 0 + 4)))))], M1)) rfl hR3 rfl rfl ?_
  refine ps_st (S' := (259, [(0, .ref m0), (1, .int t), (2, .int (nI k)), (3, .int 8)], [.int (nI k), .ref (q 34), .int (nI (argN (tX f n E (by2 f (B.getD k 0 + 4)))))], M1)) rfl rfl rfl ?_
  refine pr_ld (a := 34) (j := k) (y := (nI (by2 f (B.getD k 0)))) (S' := (260, [(0, .ref m0), (1, .int t), (2, .int (nI k)), (3, .int 8)], [.int (nI (by2 f (B.getD k 0))), .int (nI (argN (tX f n E (by2 f (B.getD k 0 + 4)))))], M1)) rfl hR3 rfl (by omega) (fun _ => g9.1) rfl (fun i1_259 => ?_)
  refine ps_st (S' := (262, [(0, .ref m0), (1, .int t), (2, .int (nI k)), (3, .int 8)], [.int 8, .int (nI (by2 f (B.getD k 0))), .int (nI (argN (tX f n E (by2 f (B.getD k 0 + 4)))))], M1)) rfl rfl rfl ?_
  refine ps_st (S' := (263, [(0, .ref m0), (1, .int t), (2, .int (nI k)), (3, .int 8)], [.int ((nI (by2 f (B.getD k 0))) &&& 8), .int (nI (argN (tX f n E (by2 f (B.getD k 0 + 4)))))], M1)) rfl rfl rfl ?_
  rw [nI_an (p := by2 f (B.getD k 0)) (k := 8) (x := 8) rfl]
  show pl _ _ _ (_, [(0, .ref m0), (1, .int t), (2, .int (nI k)), (3, .int 8)], [.int (nI (aN (by2 f (B.getD k 0)) 8)), .int (nI (argN (tX f n E (by2 f (B.getD k 0 + 4)))))], M1) _
  refine ps_if (S1 := (270, [(0, .ref m0), (1, .int t), (2, .int (nI k)), (3, .int 8)], [.int (nI (argN (tX f n E (by2 f (B.getD k 0 + 4)))))], M1)) (S2 := (266, [(0, .ref m0), (1, .int t), (2, .int (nI k)), (3, .int 8)], [.int (nI (argN (tX f n E (by2 f (B.getD k 0 + 4)))))], M1)) rfl rfl rfl (fun c_263 => ?_) (fun c_263 => ?_)
  · have c_263 : ¬ (nI (aN (by2 f (B.getD k 0)) 8)) = 0 := of_decide_eq_true c_263
    have n_263 : ¬ (aN (by2 f (B.getD k 0)) 8 = 0) := fun h9 => c_263 ((eq_nI (p := aN (by2 f (B.getD k 0)) 8) (n := 0) (Nat.lt_of_le_of_lt (an_le _ _) (by decide)) (by decide)).mpr h9)
    refine ps_st (S' := (271, [], [.int 0, .int (nI (argN (tX f n E (by2 f (B.getD k 0 + 4)))))], M1)) rfl rfl rfl ?_
    refine ps_st (S' := (272, [], [.int ((nI (argN (tX f n E (by2 f (B.getD k 0 + 4))))) + 0)], M1)) rfl rfl rfl ?_
    rw [nI_add1 (p := argN (tX f n E (by2 f (B.getD k 0 + 4)))) (k := 0) (x := 0) rfl (by omega)]
    show pl _ _ _ (_, [], [.int (nI (argN (tX f n E (by2 f (B.getD k 0 + 4))) + 0))], M1) _
    refine ps_st (S' := (281, [], [.int (nI (argN (tX f n E (by2 f (B.getD k 0 + 4))) + 0))], M1)) rfl rfl rfl ?_
    exact ps_reti rfl (⟨I2, R, congrArg (fun x => some (Value.int (nI x))) (show argN (tX f n E (by2 f (B.getD k 0 + 4))) + 0 = apN f n E (B.getD k 0) from by have a0_ := ap_9 (f := f) (n := n) (E := E) (p := (B.getD k 0)); omega), hR3, hEI16, hER, hi4⟩)
  · have c_263 : ¬ (¬ (nI (aN (by2 f (B.getD k 0)) 8)) = 0) := of_decide_eq_false c_263
    have n_263 : aN (by2 f (B.getD k 0)) 8 = 0 := (eq_nI (p := aN (by2 f (B.getD k 0)) 8) (n := 0) (Nat.lt_of_le_of_lt (an_le _ _) (by decide)) (by decide)).mp (Decidable.not_not.mp c_263)
    refine ps_st (S' := (267, [(0, .ref m0), (1, .int t), (2, .int (nI k)), (3, .int 8)], [.int 1, .int (nI (argN (tX f n E (by2 f (B.getD k 0 + 4)))))], M1)) rfl rfl rfl ?_
    refine ps_st (S' := (271, [], [.int 1, .int (nI (argN (tX f n E (by2 f (B.getD k 0 + 4)))))], M1)) rfl rfl rfl ?_
    refine ps_st (S' := (272, [], [.int ((nI (argN (tX f n E (by2 f (B.getD k 0 + 4))))) + 1)], M1)) rfl rfl rfl ?_
    rw [nI_add1 (p := argN (tX f n E (by2 f (B.getD k 0 + 4)))) (k := 1) (x := 1) rfl (by omega)]
    show pl _ _ _ (_, [], [.int (nI (argN (tX f n E (by2 f (B.getD k 0 + 4))) + 1))], M1) _
    refine ps_st (S' := (281, [], [.int (nI (argN (tX f n E (by2 f (B.getD k 0 + 4))) + 1))], M1)) rfl rfl rfl ?_
    exact ps_reti rfl (⟨I2, R, congrArg (fun x => some (Value.int (nI x))) (show argN (tX f n E (by2 f (B.getD k 0 + 4))) + 1 = apN f n E (B.getD k 0) from by have a0_ := ap_9 (f := f) (n := n) (E := E) (p := (B.getD k 0)); omega), hR3, hEI16, hER, hi4⟩)
theorem rd_memberK {g : xe_G} {m0 : Nat} {q : Nat → Nat} {z : Nat × Nat} {I : rI} {R : rR} {M : mi_H} {ko : Option (Nat × (Nat → Int32))} {t i x : Int32} (hR : RS g m0 q z I R M) (hK : KPR ko I R) (h0 : ¬ x < 0) (h1 : x ≤ 9) : pt (mT g) 223 [.ref m0, .int t, .int i, .int x] M (fun v M' => ∃ (I' : rI) (R' : rR), v = some (.int (meK ko t i x)) ∧ RS g m0 q z I' R' M' ∧ eqI [0] I I' ∧ eqR [] R R' ∧ I' 0 = some 0) := by
  cases ko with
  | none =>
    obtain ⟨kn, h2, h3⟩ := hK
    exact rd_member0 hR h2 h0 h1 h3
  | some r9 =>
    obtain ⟨h2, h3, -, hrd, tx, cN, A, E, N, mj, p1, pF, pM, pA, k1, k2, k3, k4, k5, k6, k7, rfl, rfl, m1, m2, m3, m4, m5, m6, m7, m8, ⟨a1, a2, a3, a4, a5⟩, -⟩ := hK
    have hN := by2_lt r9.2 8
    have hEP := (EP_of (whole_in k7)).1
    have hb1 := mbs_len m5
    have hb2 := mbs_len m6
    rw [meK_is k7]
    by_cases ht : t = 0
    · rw [if_pos ht]
      unfold meI
      by_cases hi : i < 0 ∨ nI (mbs r9.2 r9.1 (by2 r9.2 pF) (pF + 2)).length ≤ i
      · rw [if_pos hi]
        exact rd_memberNF hR h2 m1 h0 h1 h3 ht hi
      · rw [if_neg hi]
        obtain ⟨ei, li⟩ := i32_in hb1 hi
        obtain ⟨k, ek⟩ : ∃ k, k = i.toNatClampNeg := ⟨_, rfl⟩
        rw [← ek] at ei li ⊢
        subst ei
        obtain ⟨ew, hw⟩ := i32_10 h0 h1
        obtain ⟨j, ej⟩ : ∃ j, j = x.toNatClampNeg := ⟨_, rfl⟩
        rw [← ej] at ew hw ⊢
        subst ew
        rcases (show j = 0 ∨ j = 1 ∨ j = 2 ∨ j = 3 ∨ j = 4 ∨ j = 5 ∨ j = 6 ∨ j = 7 ∨ j = 8 ∨ j = 9 by omega) with rfl | rfl | rfl | rfl | rfl | rfl | rfl | rfl | rfl | rfl
        · exact rd_memberF0 hR h2 m1 a4 h3 ht li hb1
        · exact rd_memberF1 hR h2 m1 a4 h3 ht li hb1
        · exact rd_memberF2 hR h2 m1 a4 h3 ht li hb1
        · exact rd_memberF3 hR h2 m1 a4 h3 ht li hb1
        · exact rd_memberF4 hR h2 m1 a4 h3 ht li hb1
        · exact rd_memberF5 hR h2 m1 a4 h3 ht li hb1
        · exact rd_memberF6 hR h2 m1 a4 h3 ht li hb1
        · exact rd_memberF7 hR h2 m1 a4 h3 ht li hb1
        · exact rd_memberF8 hR h2 m1 a4 h3 ht li hb1
        · exact rd_memberF9 hR h2 m1 a4 h3 ht li hb1
    · rw [if_neg ht]
      unfold meI
      by_cases hi : i < 0 ∨ nI (mbs r9.2 r9.1 (by2 r9.2 pM) (pM + 2)).length ≤ i
      · rw [if_pos hi]
        exact rd_memberNM hR h2 m2 h0 h1 h3 ht hi
      · rw [if_neg hi]
        obtain ⟨ei, li⟩ := i32_in hb2 hi
        obtain ⟨k, ek⟩ : ∃ k, k = i.toNatClampNeg := ⟨_, rfl⟩
        rw [← ek] at ei li ⊢
        subst ei
        obtain ⟨ew, hw⟩ := i32_10 h0 h1
        obtain ⟨j, ej⟩ : ∃ j, j = x.toNatClampNeg := ⟨_, rfl⟩
        rw [← ej] at ew hw ⊢
        subst ew
        rcases (show j = 0 ∨ j = 1 ∨ j = 2 ∨ j = 3 ∨ j = 4 ∨ j = 5 ∨ j = 6 ∨ j = 7 ∨ j = 8 ∨ j = 9 by omega) with rfl | rfl | rfl | rfl | rfl | rfl | rfl | rfl | rfl | rfl
        · exact rd_memberM0 hR h2 m2 a5 h3 ht li hb2
        · exact rd_memberM1 hR h2 m2 a5 h3 ht li hb2
        · exact rd_memberM2 hR h2 m2 a5 h3 ht li hb2
        · exact rd_memberM3 hR h2 m2 a5 h3 ht li hb2
        · exact rd_memberM4 hR h2 m2 a5 h3 ht li hb2
        · exact rd_memberM5 hR h2 m2 a5 h3 ht li hb2
        · exact rd_memberM6 hR h2 m2 a5 h3 ht li hb2
        · exact rd_memberM7 hR h2 m2 a5 h3 ht li hb2
        · exact rd_memberM8 hR h2 k4 k5 k6 m2 k1 k2 k3 a5 m4 hEP hN (by2_lt _ _) h3 ht li hb2 (mth_of k7 hrd li)
        · exact rd_memberM9 hR h2 m2 a5 h3 ht li hb2

set_option maxHeartbeats 1000000 in
theorem rd_rowB {g : xe_G} {m0 : Nat} {q : Nat → Nat} {z : Nat × Nat} {I : rI} {R : rR} {M : mi_H} {m r x : Int32} (hR : RS g m0 q z I R M)   (hbad : x < 0 ∨ ¬ x ≤ 3) : pt (mT g) 239 [.ref m0, .int m, .int r, .int x] M (fun v M' => (∃  (I' : rI) (R' : rR), v = some (.int 0) ∧ RS g m0 q z I' R' M' ∧ eqI [0] I I' ∧ eqR [] R R' ∧ I' 0 = some 1)) := by
  refine pt_in (b := mb_239 g) rfl (fun kf => ?_)
  show pl (mT g) kf (mb_239 g).2 (0, [(0, .ref m0), (1, .int m), (2, .int r), (3, .int x)], [], M) _
  have hEI : eqI [0] I I := eqI.rf
  have hER : eqR [] R R := eqR.rf
  refine ps_st (S' := (1, [(0, .ref m0), (1, .int m), (2, .int r), (3, .int x)], [.ref m0], M)) rfl rfl rfl ?_
  refine ps_st (S' := (2, [(0, .ref m0), (1, .int m), (2, .int r), (3, .int x)], [.int 0, .ref m0], M)) rfl rfl rfl ?_
  refine pr_put (j := 0) rfl hR rfl (fun M1 I2 hR3 hi4 hI5 => ?_)
  have hEI6 := hEI.put hI5 (by decide)
  show pl _ _ _ (5, [(0, .ref m0), (1, .int m), (2, .int r), (3, .int x)], [], M1) _
  refine ps_st (S' := (6, [(0, .ref m0), (1, .int m), (2, .int r), (3, .int x)], [.int x], M1)) rfl rfl rfl ?_
  refine ps_if (S1 := (14, [(0, .ref m0)], [], M1)) (S2 := (9, [(0, .ref m0), (1, .int m), (2, .int r), (3, .int x)], [], M1)) rfl rfl rfl (fun c_6 => ?_) (fun c_6 => ?_)
  · have c_6 : x < 0 := of_decide_eq_true c_6
    refine ps_st (S' := (15, [(0, .ref m0)], [.ref m0], M1)) rfl rfl rfl ?_
    refine pl_call (a := [.ref m0]) (rest := []) rfl rfl rfl (rd_bad hR3) (fun v7 M8 q9 => ?_)
    obtain ⟨I10, R11, rfl, hR12, hI13, hX14, hi15⟩ := q9
    have hEI16 := hEI6.tr hI13 (by decide)
    have hER17 := hER.tr hX14 (by decide)
    show pl _ _ _ (18, [(0, .ref m0)], [.int 0], M8) _
    exact ps_ret rfl rfl (⟨I10, R11, rfl, hR12, hEI16, hER17, hi15⟩)
  · have c_6 : ¬ (x < 0) := of_decide_eq_false c_6
    refine ps_st (S' := (10, [(0, .ref m0), (1, .int m), (2, .int r), (3, .int x)], [.int x], M1)) rfl rfl rfl ?_
    refine ps_st (S' := (11, [(0, .ref m0), (1, .int m), (2, .int r), (3, .int x)], [.int 3, .int x], M1)) rfl rfl rfl ?_
    refine ps_if2 (S1 := (19, [(0, .ref m0), (1, .int m), (2, .int r), (3, .int x)], [], M1)) (S2 := (14, [(0, .ref m0)], [], M1)) rfl rfl rfl (fun c_11 => ?_) (fun c_11 => ?_)
    · have c_11 : x ≤ 3 := of_decide_eq_true c_11
      exact absurd hbad (fun h9 => h9.elim c_6 (fun h8 => h8 c_11))
    · have c_11 : ¬ (x ≤ 3) := of_decide_eq_false c_11
      refine ps_st (S' := (15, [(0, .ref m0)], [.ref m0], M1)) rfl rfl rfl ?_
      refine pl_call (a := [.ref m0]) (rest := []) rfl rfl rfl (rd_bad hR3) (fun v18 M19 q20 => ?_)
      obtain ⟨I21, R22, rfl, hR23, hI24, hX25, hi26⟩ := q20
      have hEI27 := hEI6.tr hI24 (by decide)
      have hER28 := hER.tr hX25 (by decide)
      show pl _ _ _ (18, [(0, .ref m0)], [.int 0], M19) _
      exact ps_ret rfl rfl (⟨I21, R22, rfl, hR23, hEI27, hER28, hi26⟩)
set_option maxHeartbeats 1000000 in
theorem rd_row0 {g : xe_G} {m0 : Nat} {q : Nat → Nat} {z : Nat × Nat} {I : rI} {R : rR} {M : mi_H} {kn m r x : Int32} (hR : RS g m0 q z I R M) (hi18 : I 18 = some kn)  (h0 : ¬ x < 0) (h1 : x ≤ 3) (hk : kn < 0) : pt (mT g) 239 [.ref m0, .int m, .int r, .int x] M (fun v M' => (∃  (I' : rI) (R' : rR), v = some (.int (-1)) ∧ RS g m0 q z I' R' M' ∧ eqI [0] I I' ∧ eqR [] R R' ∧ I' 0 = some 0)) := by
  refine pt_in (b := mb_239 g) rfl (fun kf => ?_)
  show pl (mT g) kf (mb_239 g).2 (0, [(0, .ref m0), (1, .int m), (2, .int r), (3, .int x)], [], M) _
  have hEI : eqI [0] I I := eqI.rf
  have hER : eqR [] R R := eqR.rf
  refine ps_st (S' := (1, [(0, .ref m0), (1, .int m), (2, .int r), (3, .int x)], [.ref m0], M)) rfl rfl rfl ?_
  refine ps_st (S' := (2, [(0, .ref m0), (1, .int m), (2, .int r), (3, .int x)], [.int 0, .ref m0], M)) rfl rfl rfl ?_
  refine pr_put (j := 0) rfl hR rfl (fun M1 I2 hR3 hi4 hI5 => ?_)
  have hi6 := (hI5 18 (by decide)).trans hi18
  have hEI7 := hEI.put hI5 (by decide)
  show pl _ _ _ (5, [(0, .ref m0), (1, .int m), (2, .int r), (3, .int x)], [], M1) _
  refine ps_st (S' := (6, [(0, .ref m0), (1, .int m), (2, .int r), (3, .int x)], [.int x], M1)) rfl rfl rfl ?_
  refine ps_if (S1 := (14, [(0, .ref m0)], [], M1)) (S2 := (9, [(0, .ref m0), (1, .int m), (2, .int r), (3, .int x)], [], M1)) rfl rfl rfl (fun c_6 => ?_) (fun c_6 => ?_)
  · exact absurd (of_decide_eq_true c_6) (h0)
  refine ps_st (S' := (10, [(0, .ref m0), (1, .int m), (2, .int r), (3, .int x)], [.int x], M1)) rfl rfl rfl ?_
  refine ps_st (S' := (11, [(0, .ref m0), (1, .int m), (2, .int r), (3, .int x)], [.int 3, .int x], M1)) rfl rfl rfl ?_
  refine ps_if2 (S1 := (19, [(0, .ref m0), (1, .int m), (2, .int r), (3, .int x)], [], M1)) (S2 := (14, [(0, .ref m0)], [], M1)) rfl rfl rfl (fun c_11 => ?_) (fun c_11 => ?_)
  rotate_left
  · exact absurd (h1) (of_decide_eq_false c_11)
  refine ps_st (S' := (20, [(0, .ref m0), (1, .int m), (2, .int r), (3, .int x)], [.ref m0], M1)) rfl rfl rfl ?_
  refine pr_int (j := 18) (S' := (23, [(0, .ref m0), (1, .int m), (2, .int r), (3, .int x)], [.int kn], M1)) rfl hR3 rfl hi6 rfl ?_
  refine ps_if (S1 := (61, [], [], M1)) (S2 := (26, [(0, .ref m0), (1, .int m), (2, .int r), (3, .int x)], [], M1)) rfl rfl rfl (fun c_23 => ?_) (fun c_23 => ?_)
  rotate_left
  · exact absurd (hk) (of_decide_eq_false c_23)
  refine ps_st (S' := (62, [], [.int (-1)], M1)) rfl rfl rfl ?_
  exact ps_ret rfl rfl (⟨I2, R, rfl, hR3, hEI7, hER, hi4⟩)
set_option maxHeartbeats 1000000 in
theorem rd_rowN {g : xe_G} {m0 : Nat} {q : Nat → Nat} {z : Nat × Nat} {I : rI} {R : rR} {M : mi_H} {n2 l : Nat} {m r x : Int32} (hR : RS g m0 q z I R M) (hi18 : I 18 = some (nI n2)) (hi26 : I 26 = some (nI l))  (h0 : ¬ x < 0) (h1 : x ≤ 3) (hn2 : n2 ≤ 65540) (hi : m < 0 ∨ nI l ≤ m) : pt (mT g) 239 [.ref m0, .int m, .int r, .int x] M (fun v M' => (∃  (I' : rI) (R' : rR), v = some (.int (-1)) ∧ RS g m0 q z I' R' M' ∧ eqI [0] I I' ∧ eqR [] R R' ∧ I' 0 = some 0)) := by
  refine pt_in (b := mb_239 g) rfl (fun kf => ?_)
  show pl (mT g) kf (mb_239 g).2 (0, [(0, .ref m0), (1, .int m), (2, .int r), (3, .int x)], [], M) _
  have hEI : eqI [0] I I := eqI.rf
  have hER : eqR [] R R := eqR.rf
  refine ps_st (S' := (1, [(0, .ref m0), (1, .int m), (2, .int r), (3, .int x)], [.ref m0], M)) rfl rfl rfl ?_
  refine ps_st (S' := (2, [(0, .ref m0), (1, .int m), (2, .int r), (3, .int x)], [.int 0, .ref m0], M)) rfl rfl rfl ?_
  refine pr_put (j := 0) rfl hR rfl (fun M1 I2 hR3 hi4 hI5 => ?_)
  have hi6 := (hI5 18 (by decide)).trans hi18
  have hi7 := (hI5 26 (by decide)).trans hi26
  have hEI8 := hEI.put hI5 (by decide)
  show pl _ _ _ (5, [(0, .ref m0), (1, .int m), (2, .int r), (3, .int x)], [], M1) _
  refine ps_st (S' := (6, [(0, .ref m0), (1, .int m), (2, .int r), (3, .int x)], [.int x], M1)) rfl rfl rfl ?_
  refine ps_if (S1 := (14, [(0, .ref m0)], [], M1)) (S2 := (9, [(0, .ref m0), (1, .int m), (2, .int r), (3, .int x)], [], M1)) rfl rfl rfl (fun c_6 => ?_) (fun c_6 => ?_)
  · exact absurd (of_decide_eq_true c_6) (h0)
  refine ps_st (S' := (10, [(0, .ref m0), (1, .int m), (2, .int r), (3, .int x)], [.int x], M1)) rfl rfl rfl ?_
  refine ps_st (S' := (11, [(0, .ref m0), (1, .int m), (2, .int r), (3, .int x)], [.int 3, .int x], M1)) rfl rfl rfl ?_
  refine ps_if2 (S1 := (19, [(0, .ref m0), (1, .int m), (2, .int r), (3, .int x)], [], M1)) (S2 := (14, [(0, .ref m0)], [], M1)) rfl rfl rfl (fun c_11 => ?_) (fun c_11 => ?_)
  rotate_left
  · exact absurd (h1) (of_decide_eq_false c_11)
  refine ps_st (S' := (20, [(0, .ref m0), (1, .int m), (2, .int r), (3, .int x)], [.ref m0], M1)) rfl rfl rfl ?_
  refine pr_int (j := 18) (S' := (23, [(0, .ref m0), (1, .int m), (2, .int r), (3, .int x)], [.int (nI n2)], M1)) rfl hR3 rfl hi6 rfl ?_
  refine ps_if (S1 := (61, [], [], M1)) (S2 := (26, [(0, .ref m0), (1, .int m), (2, .int r), (3, .int x)], [], M1)) rfl rfl rfl (fun c_23 => ?_) (fun c_23 => ?_)
  · exact absurd (of_decide_eq_true c_23) (nI_n0 (by omega))
  refine ps_st (S' := (27, [(0, .ref m0), (1, .int m), (2, .int r), (3, .int x)], [.int m], M1)) rfl rfl rfl ?_
  refine ps_if (S1 := (61, [], [], M1)) (S2 := (30, [(0, .ref m0), (1, .int m), (2, .int r), (3, .int x)], [], M1)) rfl rfl rfl (fun c_27 => ?_) (fun c_27 => ?_)
  · have c_27 : m < 0 := of_decide_eq_true c_27
    refine ps_st (S' := (62, [], [.int (-1)], M1)) rfl rfl rfl ?_
    exact ps_ret rfl rfl (⟨I2, R, rfl, hR3, hEI8, hER, hi4⟩)
  · have c_27 : ¬ (m < 0) := of_decide_eq_false c_27
    refine ps_st (S' := (31, [(0, .ref m0), (1, .int m), (2, .int r), (3, .int x)], [.int m], M1)) rfl rfl rfl ?_
    refine ps_st (S' := (32, [(0, .ref m0), (1, .int m), (2, .int r), (3, .int x)], [.ref m0, .int m], M1)) rfl rfl rfl ?_
    refine pr_int (j := 26) (S' := (35, [(0, .ref m0), (1, .int m), (2, .int r), (3, .int x)], [.int (nI l), .int m], M1)) rfl hR3 rfl hi7 rfl ?_
    refine ps_if2 (S1 := (61, [], [], M1)) (S2 := (38, [(0, .ref m0), (1, .int m), (2, .int r), (3, .int x)], [], M1)) rfl rfl rfl (fun c_35 => ?_) (fun c_35 => ?_)
    rotate_left
    · exact absurd (hi.resolve_left c_27) (of_decide_eq_false c_35)
    refine ps_st (S' := (62, [], [.int (-1)], M1)) rfl rfl rfl ?_
    exact ps_ret rfl rfl (⟨I2, R, rfl, hR3, hEI8, hER, hi4⟩)
set_option maxHeartbeats 1000000 in
theorem rd_rowC {g : xe_G} {m0 : Nat} {q : Nat → Nat} {z : Nat × Nat} {I : rI} {R : rR} {M : mi_H} {f : Nat → Int32} {n n2 k cp : Nat} {E : List (Nat × Nat)} {B : List Nat} {r x : Int32} (hR : RS g m0 q z I R M) (hi18 : I 18 = some (nI n2)) (hi26 : I 26 = some (nI B.length)) (hQ : MQX f n E B 0 B.length I R) (h0 : ¬ x < 0) (h1 : x ≤ 3) (hn2 : n2 ≤ 65540) (hk : k < B.length) (hBl : B.length < 65536) (hcp : (mK f n E (B.getD k 0)).2.1 = cp) (hc0 : cp = 0) : pt (mT g) 239 [.ref m0, .int (nI k), .int r, .int x] M (fun v M' => (∃  (I' : rI) (R' : rR), v = some (.int (-1)) ∧ RS g m0 q z I' R' M' ∧ eqI [0] I I' ∧ eqR [] R R' ∧ I' 0 = some 0)) := by
  refine pt_in (b := mb_239 g) rfl (fun kf => ?_)
  show pl (mT g) kf (mb_239 g).2 (0, [(0, .ref m0), (1, .int (nI k)), (2, .int r), (3, .int x)], [], M) _
  have hEI : eqI [0] I I := eqI.rf
  have hER : eqR [] R R := eqR.rf
  have g9 := hQ k hk
  rw [Nat.zero_add] at g9
  unfold MWc at g9
  rw [hcp] at g9
  refine ps_st (S' := (1, [(0, .ref m0), (1, .int (nI k)), (2, .int r), (3, .int x)], [.ref m0], M)) rfl rfl rfl ?_
  refine ps_st (S' := (2, [(0, .ref m0), (1, .int (nI k)), (2, .int r), (3, .int x)], [.int 0, .ref m0], M)) rfl rfl rfl ?_
  refine pr_put (j := 0) rfl hR rfl (fun M1 I2 hR3 hi4 hI5 => ?_)
  have hi6 := (hI5 18 (by decide)).trans hi18
  have hi7 := (hI5 26 (by decide)).trans hi26
  have hQ_8 := hQ.mono (pIx hI5 (by decide)) (fun _ _ => rfl)
  have hEI9 := hEI.put hI5 (by decide)
  show pl _ _ _ (5, [(0, .ref m0), (1, .int (nI k)), (2, .int r), (3, .int x)], [], M1) _
  refine ps_st (S' := (6, [(0, .ref m0), (1, .int (nI k)), (2, .int r), (3, .int x)], [.int x], M1)) rfl rfl rfl ?_
  refine ps_if (S1 := (14, [(0, .ref m0)], [], M1)) (S2 := (9, [(0, .ref m0), (1, .int (nI k)), (2, .int r), (3, .int x)], [], M1)) rfl rfl rfl (fun c_6 => ?_) (fun c_6 => ?_)
  · exact absurd (of_decide_eq_true c_6) (h0)
  refine ps_st (S' := (10, [(0, .ref m0), (1, .int (nI k)), (2, .int r), (3, .int x)], [.int x], M1)) rfl rfl rfl ?_
  refine ps_st (S' := (11, [(0, .ref m0), (1, .int (nI k)), (2, .int r), (3, .int x)], [.int 3, .int x], M1)) rfl rfl rfl ?_
  refine ps_if2 (S1 := (19, [(0, .ref m0), (1, .int (nI k)), (2, .int r), (3, .int x)], [], M1)) (S2 := (14, [(0, .ref m0)], [], M1)) rfl rfl rfl (fun c_11 => ?_) (fun c_11 => ?_)
  rotate_left
  · exact absurd (h1) (of_decide_eq_false c_11)
  refine ps_st (S' := (20, [(0, .ref m0), (1, .int (nI k)), (2, .int r), (3, .int x)], [.ref m0], M1)) rfl rfl rfl ?_
  refine pr_int (j := 18) (S' := (23, [(0, .ref m0), (1, .int (nI k)), (2, .int r), (3, .int x)], [.int (nI n2)], M1)) rfl hR3 rfl hi6 rfl ?_
  refine ps_if (S1 := (61, [], [], M1)) (S2 := (26, [(0, .ref m0), (1, .int (nI k)), (2, .int r), (3, .int x)], [], M1)) rfl rfl rfl (fun c_23 => ?_) (fun c_23 => ?_)
  · exact absurd (of_decide_eq_true c_23) (nI_n0 (by omega))
  refine ps_st (S' := (27, [(0, .ref m0), (1, .int (nI k)), (2, .int r), (3, .int x)], [.int (nI k)], M1)) rfl rfl rfl ?_
  refine ps_if (S1 := (61, [], [], M1)) (S2 := (30, [(0, .ref m0), (1, .int (nI k)), (2, .int r), (3, .int x)], [], M1)) rfl rfl rfl (fun c_27 => ?_) (fun c_27 => ?_)
  · exact absurd (of_decide_eq_true c_27) (nI_n0 (by omega))
  refine ps_st (S' := (31, [(0, .ref m0), (1, .int (nI k)), (2, .int r), (3, .int x)], [.int (nI k)], M1)) rfl rfl rfl ?_
  refine ps_st (S' := (32, [(0, .ref m0), (1, .int (nI k)), (2, .int r), (3, .int x)], [.ref m0, .int (nI k)], M1)) rfl rfl rfl ?_
  refine pr_int (j := 26) (S' := (35, [(0, .ref m0), (1, .int (nI k)), (2, .int r), (3, .int x)], [.int (nI B.length), .int (nI k)], M1)) rfl hR3 rfl hi7 rfl ?_
  refine ps_if2 (S1 := (61, [], [], M1)) (S2 := (38, [(0, .ref m0), (1, .int (nI k)), (2, .int r), (3, .int x)], [], M1)) rfl rfl rfl (fun c_35 => ?_) (fun c_35 => ?_)
  · exact absurd (of_decide_eq_true c_35) (fun h9 => absurd ((le_nI (p := B.length) (n := k) (by omega) (by omega)).mp h9) (by omega))
  refine ps_st (S' := (39, [(0, .ref m0), (1, .int (nI k)), (2, .int r), (3, .int x)], [.ref m0], M1)) rfl rfl rfl ?_
  refine pr_ref (j := 37) (S' := (42, [(0, .ref m0), (1, .int (nI k)), (2, .int r), (3, .int x)], [.ref (q 37)], M1)) rfl hR3 rfl rfl ?_
  refine ps_st (S' := (43, [(0, .ref m0), (1, .int (nI k)), (2, .int r), (3, .int x)], [.int (nI k), .ref (q 37)], M1)) rfl rfl rfl ?_
  refine pr_ld (a := 37) (j := k) (y := (-1)) (S' := (44, [(0, .ref m0), (1, .int (nI k)), (2, .int r), (3, .int x)], [.int (-1)], M1)) rfl hR3 rfl (by omega) (fun _ => by rw [g9.2.1.1.1, if_pos hc0]) rfl (fun i1_43 => ?_)
  refine ps_if (S1 := (61, [], [], M1)) (S2 := (47, [(0, .ref m0), (1, .int (nI k)), (2, .int r), (3, .int x)], [], M1)) rfl rfl rfl (fun c_44 => ?_) (fun c_44 => ?_)
  rotate_left
  · exact absurd (by decide) (of_decide_eq_false c_44)
  refine ps_st (S' := (62, [], [.int (-1)], M1)) rfl rfl rfl ?_
  exact ps_ret rfl rfl (⟨I2, R, rfl, hR3, hEI9, hER, hi4⟩)
set_option maxHeartbeats 1000000 in
theorem rd_rowR {g : xe_G} {m0 : Nat} {q : Nat → Nat} {z : Nat × Nat} {I : rI} {R : rR} {M : mi_H} {f : Nat → Int32} {n n2 k cp : Nat} {E : List (Nat × Nat)} {B : List Nat} {r x : Int32} (hR : RS g m0 q z I R M) (hi18 : I 18 = some (nI n2)) (hi26 : I 26 = some (nI B.length)) (hQ : MQX f n E B 0 B.length I R) (h0 : ¬ x < 0) (h1 : x ≤ 3) (hn2 : n2 ≤ 65540) (hk : k < B.length) (hBl : B.length < 65536) (hcp : (mK f n E (B.getD k 0)).2.1 = cp) (hc0 : ¬ cp = 0) (hci : CIN f n cp) (hn : n ≤ 65540) (hr : r < 0 ∨ nI (by2 f (cp + 14 + by4 f (cp + 10))) ≤ r) : pt (mT g) 239 [.ref m0, .int (nI k), .int r, .int x] M (fun v M' => (∃  (I' : rI) (R' : rR), v = some (.int (-1)) ∧ RS g m0 q z I' R' M' ∧ eqI [0] I I' ∧ eqR [] R R' ∧ I' 0 = some 0)) := by
  refine pt_in (b := mb_239 g) rfl (fun kf => ?_)
  show pl (mT g) kf (mb_239 g).2 (0, [(0, .ref m0), (1, .int (nI k)), (2, .int r), (3, .int x)], [], M) _
  have hEI : eqI [0] I I := eqI.rf
  have hER : eqR [] R R := eqR.rf
  have g9 := hQ k hk
  rw [Nat.zero_add] at g9
  unfold MWc at g9
  rw [hcp] at g9
  have hci1 := hci.1
  have hu9 := by2_lt f (cp + 14 + by4 f (cp + 10))
  refine ps_st (S' := (1, [(0, .ref m0), (1, .int (nI k)), (2, .int r), (3, .int x)], [.ref m0], M)) rfl rfl rfl ?_
  refine ps_st (S' := (2, [(0, .ref m0), (1, .int (nI k)), (2, .int r), (3, .int x)], [.int 0, .ref m0], M)) rfl rfl rfl ?_
  refine pr_put (j := 0) rfl hR rfl (fun M1 I2 hR3 hi4 hI5 => ?_)
  have hi6 := (hI5 18 (by decide)).trans hi18
  have hi7 := (hI5 26 (by decide)).trans hi26
  have hQ_8 := hQ.mono (pIx hI5 (by decide)) (fun _ _ => rfl)
  have hEI9 := hEI.put hI5 (by decide)
  show pl _ _ _ (5, [(0, .ref m0), (1, .int (nI k)), (2, .int r), (3, .int x)], [], M1) _
  refine ps_st (S' := (6, [(0, .ref m0), (1, .int (nI k)), (2, .int r), (3, .int x)], [.int x], M1)) rfl rfl rfl ?_
  refine ps_if (S1 := (14, [(0, .ref m0)], [], M1)) (S2 := (9, [(0, .ref m0), (1, .int (nI k)), (2, .int r), (3, .int x)], [], M1)) rfl rfl rfl (fun c_6 => ?_) (fun c_6 => ?_)
  · exact absurd (of_decide_eq_true c_6) (h0)
  refine ps_st (S' := (10, [(0, .ref m0), (1, .int (nI k)), (2, .int r), (3, .int x)], [.int x], M1)) rfl rfl rfl ?_
  refine ps_st (S' := (11, [(0, .ref m0), (1, .int (nI k)), (2, .int r), (3, .int x)], [.int 3, .int x], M1)) rfl rfl rfl ?_
  refine ps_if2 (S1 := (19, [(0, .ref m0), (1, .int (nI k)), (2, .int r), (3, .int x)], [], M1)) (S2 := (14, [(0, .ref m0)], [], M1)) rfl rfl rfl (fun c_11 => ?_) (fun c_11 => ?_)
  rotate_left
  · exact absurd (h1) (of_decide_eq_false c_11)
  refine ps_st (S' := (20, [(0, .ref m0), (1, .int (nI k)), (2, .int r), (3, .int x)], [.ref m0], M1)) rfl rfl rfl ?_
  refine pr_int (j := 18) (S' := (23, [(0, .ref m0), (1, .int (nI k)), (2, .int r), (3, .int x)], [.int (nI n2)], M1)) rfl hR3 rfl hi6 rfl ?_
  refine ps_if (S1 := (61, [], [], M1)) (S2 := (26, [(0, .ref m0), (1, .int (nI k)), (2, .int r), (3, .int x)], [], M1)) rfl rfl rfl (fun c_23 => ?_) (fun c_23 => ?_)
  · exact absurd (of_decide_eq_true c_23) (nI_n0 (by omega))
  refine ps_st (S' := (27, [(0, .ref m0), (1, .int (nI k)), (2, .int r), (3, .int x)], [.int (nI k)], M1)) rfl rfl rfl ?_
  refine ps_if (S1 := (61, [], [], M1)) (S2 := (30, [(0, .ref m0), (1, .int (nI k)), (2, .int r), (3, .int x)], [], M1)) rfl rfl rfl (fun c_27 => ?_) (fun c_27 => ?_)
  · exact absurd (of_decide_eq_true c_27) (nI_n0 (by omega))
  refine ps_st (S' := (31, [(0, .ref m0), (1, .int (nI k)), (2, .int r), (3, .int x)], [.int (nI k)], M1)) rfl rfl rfl ?_
  refine ps_st (S' := (32, [(0, .ref m0), (1, .int (nI k)), (2, .int r), (3, .int x)], [.ref m0, .int (nI k)], M1)) rfl rfl rfl ?_
  refine pr_int (j := 26) (S' := (35, [(0, .ref m0), (1, .int (nI k)), (2, .int r), (3, .int x)], [.int (nI B.length), .int (nI k)], M1)) rfl hR3 rfl hi7 rfl ?_
  refine ps_if2 (S1 := (61, [], [], M1)) (S2 := (38, [(0, .ref m0), (1, .int (nI k)), (2, .int r), (3, .int x)], [], M1)) rfl rfl rfl (fun c_35 => ?_) (fun c_35 => ?_)
  · exact absurd (of_decide_eq_true c_35) (fun h9 => absurd ((le_nI (p := B.length) (n := k) (by omega) (by omega)).mp h9) (by omega))
  refine ps_st (S' := (39, [(0, .ref m0), (1, .int (nI k)), (2, .int r), (3, .int x)], [.ref m0], M1)) rfl rfl rfl ?_
  refine pr_ref (j := 37) (S' := (42, [(0, .ref m0), (1, .int (nI k)), (2, .int r), (3, .int x)], [.ref (q 37)], M1)) rfl hR3 rfl rfl ?_
  refine ps_st (S' := (43, [(0, .ref m0), (1, .int (nI k)), (2, .int r), (3, .int x)], [.int (nI k), .ref (q 37)], M1)) rfl rfl rfl ?_
  refine pr_ld (a := 37) (j := k) (y := (nI (cp + 14))) (S' := (44, [(0, .ref m0), (1, .int (nI k)), (2, .int r), (3, .int x)], [.int (nI (cp + 14))], M1)) rfl hR3 rfl (by omega) (fun _ => by rw [g9.2.1.1.1, if_neg hc0]) rfl (fun i1_43 => ?_)
  refine ps_if (S1 := (61, [], [], M1)) (S2 := (47, [(0, .ref m0), (1, .int (nI k)), (2, .int r), (3, .int x)], [], M1)) rfl rfl rfl (fun c_44 => ?_) (fun c_44 => ?_)
  · exact absurd (of_decide_eq_true c_44) (nI_n0 (by omega))
  refine ps_st (S' := (48, [(0, .ref m0), (1, .int (nI k)), (2, .int r), (3, .int x)], [.int r], M1)) rfl rfl rfl ?_
  refine ps_if (S1 := (61, [], [], M1)) (S2 := (51, [(0, .ref m0), (1, .int (nI k)), (2, .int r), (3, .int x)], [], M1)) rfl rfl rfl (fun c_48 => ?_) (fun c_48 => ?_)
  · have c_48 : r < 0 := of_decide_eq_true c_48
    refine ps_st (S' := (62, [], [.int (-1)], M1)) rfl rfl rfl ?_
    exact ps_ret rfl rfl (⟨I2, R, rfl, hR3, hEI9, hER, hi4⟩)
  · have c_48 : ¬ (r < 0) := of_decide_eq_false c_48
    refine ps_st (S' := (52, [(0, .ref m0), (1, .int (nI k)), (2, .int r), (3, .int x)], [.int r], M1)) rfl rfl rfl ?_
    refine ps_st (S' := (53, [(0, .ref m0), (1, .int (nI k)), (2, .int r), (3, .int x)], [.ref m0, .int r], M1)) rfl rfl rfl ?_
    refine pr_ref (j := 42) (S' := (56, [(0, .ref m0), (1, .int (nI k)), (2, .int r), (3, .int x)], [.ref (q 42), .int r], M1)) rfl hR3 rfl rfl ?_
    refine ps_st (S' := (57, [(0, .ref m0), (1, .int (nI k)), (2, .int r), (3, .int x)], [.int (nI k), .ref (q 42), .int r], M1)) rfl rfl rfl ?_
    refine pr_ld (a := 42) (j := k) (y := (nI (by2 f (cp + 14 + by4 f (cp + 10))))) (S' := (58, [(0, .ref m0), (1, .int (nI k)), (2, .int r), (3, .int x)], [.int (nI (by2 f (cp + 14 + by4 f (cp + 10)))), .int r], M1)) rfl hR3 rfl (by omega) (fun _ => by rw [g9.2.1.1.2.2.2.2.2, if_neg hc0]) rfl (fun i1_57 => ?_)
    refine ps_if2 (S1 := (63, [(0, .ref m0), (1, .int (nI k)), (2, .int r), (3, .int x)], [], M1)) (S2 := (61, [], [], M1)) rfl rfl rfl (fun c_58 => ?_) (fun c_58 => ?_)
    · exact absurd (of_decide_eq_true c_58) (Int32.not_lt.mpr (hr.resolve_left c_48))
    refine ps_st (S' := (62, [], [.int (-1)], M1)) rfl rfl rfl ?_
    exact ps_ret rfl rfl (⟨I2, R, rfl, hR3, hEI9, hER, hi4⟩)
set_option maxHeartbeats 1000000 in
theorem rd_rowV {g : xe_G} {m0 : Nat} {q : Nat → Nat} {z : Nat × Nat} {I : rI} {R : rR} {M : mi_H} {f : Nat → Int32} {n n2 k cp : Nat} {E : List (Nat × Nat)} {B : List Nat} {u x : Nat} (hR : RS g m0 q z I R M) (hi18 : I 18 = some (nI n2)) (hi26 : I 26 = some (nI B.length)) (hF : FK n f I R) (hQ : MQX f n E B 0 B.length I R) (hx : x ≤ 3) (hn2 : n2 ≤ 65540) (hk : k < B.length) (hBl : B.length < 65536) (hcp : (mK f n E (B.getD k 0)).2.1 = cp) (hc0 : ¬ cp = 0) (hci : CIN f n cp) (hn : n ≤ 65540) (hu : u < by2 f (cp + 14 + by4 f (cp + 10))) : pt (mT g) 239 [.ref m0, .int (nI k), .int (nI u), .int (nI x)] M (fun v M' => (∃  (I' : rI) (R' : rR), v = some (.int (nI (by2 f (cp + 14 + by4 f (cp + 10) + 2 + 8 * u + 2 * x)))) ∧ RS g m0 q z I' R' M' ∧ eqI [0] I I' ∧ eqR [] R R' ∧ I' 0 = some 0)) := by
  refine pt_in (b := mb_239 g) rfl (fun kf => ?_)
  show pl (mT g) kf (mb_239 g).2 (0, [(0, .ref m0), (1, .int (nI k)), (2, .int (nI u)), (3, .int (nI x))], [], M) _
  have hEI : eqI [0] I I := eqI.rf
  have hER : eqR [] R R := eqR.rf
  have g9 := hQ k hk
  rw [Nat.zero_add] at g9
  unfold MWc at g9
  rw [hcp] at g9
  have hci1 := hci.1
  have hu9 := by2_lt f (cp + 14 + by4 f (cp + 10))
  refine ps_st (S' := (1, [(0, .ref m0), (1, .int (nI k)), (2, .int (nI u)), (3, .int (nI x))], [.ref m0], M)) rfl rfl rfl ?_
  refine ps_st (S' := (2, [(0, .ref m0), (1, .int (nI k)), (2, .int (nI u)), (3, .int (nI x))], [.int 0, .ref m0], M)) rfl rfl rfl ?_
  refine pr_put (j := 0) rfl hR rfl (fun M1 I2 hR3 hi4 hI5 => ?_)
  have hi6 := (hI5 18 (by decide)).trans hi18
  have hi7 := (hI5 26 (by decide)).trans hi26
  have hF_8 := hF.mono (pIx hI5 (by decide)) (fun _ _ => rfl)
  have hQ_9 := hQ.mono (pIx hI5 (by decide)) (fun _ _ => rfl)
  have hEI10 := hEI.put hI5 (by decide)
  show pl _ _ _ (5, [(0, .ref m0), (1, .int (nI k)), (2, .int (nI u)), (3, .int (nI x))], [], M1) _
  refine ps_st (S' := (6, [(0, .ref m0), (1, .int (nI k)), (2, .int (nI u)), (3, .int (nI x))], [.int (nI x)], M1)) rfl rfl rfl ?_
  refine ps_if (S1 := (14, [(0, .ref m0)], [], M1)) (S2 := (9, [(0, .ref m0), (1, .int (nI k)), (2, .int (nI u)), (3, .int (nI x))], [], M1)) rfl rfl rfl (fun c_6 => ?_) (fun c_6 => ?_)
  · exact absurd (of_decide_eq_true c_6) (nI_n0 (by omega))
  refine ps_st (S' := (10, [(0, .ref m0), (1, .int (nI k)), (2, .int (nI u)), (3, .int (nI x))], [.int (nI x)], M1)) rfl rfl rfl ?_
  refine ps_st (S' := (11, [(0, .ref m0), (1, .int (nI k)), (2, .int (nI u)), (3, .int (nI x))], [.int 3, .int (nI x)], M1)) rfl rfl rfl ?_
  refine ps_if2 (S1 := (19, [(0, .ref m0), (1, .int (nI k)), (2, .int (nI u)), (3, .int (nI x))], [], M1)) (S2 := (14, [(0, .ref m0)], [], M1)) rfl rfl rfl (fun c_11 => ?_) (fun c_11 => ?_)
  rotate_left
  · exact absurd ((le_nI (p := x) (n := 3) (by omega) (by decide)).mpr hx) (of_decide_eq_false c_11)
  refine ps_st (S' := (20, [(0, .ref m0), (1, .int (nI k)), (2, .int (nI u)), (3, .int (nI x))], [.ref m0], M1)) rfl rfl rfl ?_
  refine pr_int (j := 18) (S' := (23, [(0, .ref m0), (1, .int (nI k)), (2, .int (nI u)), (3, .int (nI x))], [.int (nI n2)], M1)) rfl hR3 rfl hi6 rfl ?_
  refine ps_if (S1 := (61, [], [], M1)) (S2 := (26, [(0, .ref m0), (1, .int (nI k)), (2, .int (nI u)), (3, .int (nI x))], [], M1)) rfl rfl rfl (fun c_23 => ?_) (fun c_23 => ?_)
  · exact absurd (of_decide_eq_true c_23) (nI_n0 (by omega))
  refine ps_st (S' := (27, [(0, .ref m0), (1, .int (nI k)), (2, .int (nI u)), (3, .int (nI x))], [.int (nI k)], M1)) rfl rfl rfl ?_
  refine ps_if (S1 := (61, [], [], M1)) (S2 := (30, [(0, .ref m0), (1, .int (nI k)), (2, .int (nI u)), (3, .int (nI x))], [], M1)) rfl rfl rfl (fun c_27 => ?_) (fun c_27 => ?_)
  · exact absurd (of_decide_eq_true c_27) (nI_n0 (by omega))
  refine ps_st (S' := (31, [(0, .ref m0), (1, .int (nI k)), (2, .int (nI u)), (3, .int (nI x))], [.int (nI k)], M1)) rfl rfl rfl ?_
  refine ps_st (S' := (32, [(0, .ref m0), (1, .int (nI k)), (2, .int (nI u)), (3, .int (nI x))], [.ref m0, .int (nI k)], M1)) rfl rfl rfl ?_
  refine pr_int (j := 26) (S' := (35, [(0, .ref m0), (1, .int (nI k)), (2, .int (nI u)), (3, .int (nI x))], [.int (nI B.length), .int (nI k)], M1)) rfl hR3 rfl hi7 rfl ?_
  refine ps_if2 (S1 := (61, [], [], M1)) (S2 := (38, [(0, .ref m0), (1, .int (nI k)), (2, .int (nI u)), (3, .int (nI x))], [], M1)) rfl rfl rfl (fun c_35 => ?_) (fun c_35 => ?_)
  · exact absurd (of_decide_eq_true c_35) (fun h9 => absurd ((le_nI (p := B.length) (n := k) (by omega) (by omega)).mp h9) (by omega))
  refine ps_st (S' := (39, [(0, .ref m0), (1, .int (nI k)), (2, .int (nI u)), (3, .int (nI x))], [.ref m0], M1)) rfl rfl rfl ?_
  refine pr_ref (j := 37) (S' := (42, [(0, .ref m0), (1, .int (nI k)), (2, .int (nI u)), (3, .int (nI x))], [.ref (q 37)], M1)) rfl hR3 rfl rfl ?_
  refine ps_st (S' := (43, [(0, .ref m0), (1, .int (nI k)), (2, .int (nI u)), (3, .int (nI x))], [.int (nI k), .ref (q 37)], M1)) rfl rfl rfl ?_
  refine pr_ld (a := 37) (j := k) (y := (nI (cp + 14))) (S' := (44, [(0, .ref m0), (1, .int (nI k)), (2, .int (nI u)), (3, .int (nI x))], [.int (nI (cp + 14))], M1)) rfl hR3 rfl (by omega) (fun _ => by rw [g9.2.1.1.1, if_neg hc0]) rfl (fun i1_43 => ?_)
  refine ps_if (S1 := (61, [], [], M1)) (S2 := (47, [(0, .ref m0), (1, .int (nI k)), (2, .int (nI u)), (3, .int (nI x))], [], M1)) rfl rfl rfl (fun c_44 => ?_) (fun c_44 => ?_)
  · exact absurd (of_decide_eq_true c_44) (nI_n0 (by omega))
  refine ps_st (S' := (48, [(0, .ref m0), (1, .int (nI k)), (2, .int (nI u)), (3, .int (nI x))], [.int (nI u)], M1)) rfl rfl rfl ?_
  refine ps_if (S1 := (61, [], [], M1)) (S2 := (51, [(0, .ref m0), (1, .int (nI k)), (2, .int (nI u)), (3, .int (nI x))], [], M1)) rfl rfl rfl (fun c_48 => ?_) (fun c_48 => ?_)
  · exact absurd (of_decide_eq_true c_48) (nI_n0 (by omega))
  refine ps_st (S' := (52, [(0, .ref m0), (1, .int (nI k)), (2, .int (nI u)), (3, .int (nI x))], [.int (nI u)], M1)) rfl rfl rfl ?_
  refine ps_st (S' := (53, [(0, .ref m0), (1, .int (nI k)), (2, .int (nI u)), (3, .int (nI x))], [.ref m0, .int (nI u)], M1)) rfl rfl rfl ?_
  refine pr_ref (j := 42) (S' := (56, [(0, .ref m0), (1, .int (nI k)), (2, .int (nI u)), (3, .int (nI x))], [.ref (q 42), .int (nI u)], M1)) rfl hR3 rfl rfl ?_
  refine ps_st (S' := (57, [(0, .ref m0), (1, .int (nI k)), (2, .int (nI u)), (3, .int (nI x))], [.int (nI k), .ref (q 42), .int (nI u)], M1)) rfl rfl rfl ?_
  refine pr_ld (a := 42) (j := k) (y := (nI (by2 f (cp + 14 + by4 f (cp + 10))))) (S' := (58, [(0, .ref m0), (1, .int (nI k)), (2, .int (nI u)), (3, .int (nI x))], [.int (nI (by2 f (cp + 14 + by4 f (cp + 10)))), .int (nI u)], M1)) rfl hR3 rfl (by omega) (fun _ => by rw [g9.2.1.1.2.2.2.2.2, if_neg hc0]) rfl (fun i1_57 => ?_)
  refine ps_if2 (S1 := (63, [(0, .ref m0), (1, .int (nI k)), (2, .int (nI u)), (3, .int (nI x))], [], M1)) (S2 := (61, [], [], M1)) rfl rfl rfl (fun c_58 => ?_) (fun c_58 => ?_)
  rotate_left
  · exact absurd ((lt_nI (p := u) (n := by2 f (cp + 14 + by4 f (cp + 10))) (by omega) (by omega)).mpr hu) (of_decide_eq_false c_58)
  refine ps_st (S' := (64, [(0, .ref m0), (1, .int (nI k)), (2, .int (nI u)), (3, .int (nI x))], [.ref m0], M1)) rfl rfl rfl ?_
  refine ps_st (S' := (65, [(0, .ref m0), (1, .int (nI k)), (2, .int (nI u)), (3, .int (nI x))], [.ref m0, .ref m0], M1)) rfl rfl rfl ?_
  refine pr_ref (j := 41) (S' := (68, [(0, .ref m0), (1, .int (nI k)), (2, .int (nI u)), (3, .int (nI x))], [.ref (q 41), .ref m0], M1)) rfl hR3 rfl rfl ?_
  refine ps_st (S' := (69, [(0, .ref m0), (1, .int (nI k)), (2, .int (nI u)), (3, .int (nI x))], [.int (nI k), .ref (q 41), .ref m0], M1)) rfl rfl rfl ?_
  refine pr_ld (a := 41) (j := k) (y := (nI (cp + 14 + by4 f (cp + 10) + 2))) (S' := (70, [(0, .ref m0), (1, .int (nI k)), (2, .int (nI u)), (3, .int (nI x))], [.int (nI (cp + 14 + by4 f (cp + 10) + 2)), .ref m0], M1)) rfl hR3 rfl (by omega) (fun _ => g9.2.1.1.2.2.2.2.1 hc0) rfl (fun i1_69 => ?_)
  refine ps_st (S' := (72, [(0, .ref m0), (1, .int (nI k)), (2, .int (nI u)), (3, .int (nI x))], [.int 8, .int (nI (cp + 14 + by4 f (cp + 10) + 2)), .ref m0], M1)) rfl rfl rfl ?_
  refine ps_st (S' := (73, [(0, .ref m0), (1, .int (nI k)), (2, .int (nI u)), (3, .int (nI x))], [.int (nI u), .int 8, .int (nI (cp + 14 + by4 f (cp + 10) + 2)), .ref m0], M1)) rfl rfl rfl ?_
  refine ps_st (S' := (74, [(0, .ref m0), (1, .int (nI k)), (2, .int (nI u)), (3, .int (nI x))], [.int (8 * (nI u)), .int (nI (cp + 14 + by4 f (cp + 10) + 2)), .ref m0], M1)) rfl rfl rfl ?_
  rw [nI_mul1 (p := 8) (k := u) (x := 8) (y := (nI u)) rfl rfl (by omega)]
  show pl _ _ _ (_, [(0, .ref m0), (1, .int (nI k)), (2, .int (nI u)), (3, .int (nI x))], [.int (nI (8 * u)), .int (nI (cp + 14 + by4 f (cp + 10) + 2)), .ref m0], M1) _
  refine ps_st (S' := (75, [(0, .ref m0), (1, .int (nI k)), (2, .int (nI u)), (3, .int (nI x))], [.int ((nI (cp + 14 + by4 f (cp + 10) + 2)) + (nI (8 * u))), .ref m0], M1)) rfl rfl rfl ?_
  rw [nI_add1 (p := cp + 14 + by4 f (cp + 10) + 2) (k := 8 * u) (x := (nI (8 * u))) rfl (by omega)]
  show pl _ _ _ (_, [(0, .ref m0), (1, .int (nI k)), (2, .int (nI u)), (3, .int (nI x))], [.int (nI (cp + 14 + by4 f (cp + 10) + 2 + 8 * u)), .ref m0], M1) _
  refine ps_st (S' := (76, [(0, .ref m0), (1, .int (nI k)), (2, .int (nI u)), (3, .int (nI x))], [.int 2, .int (nI (cp + 14 + by4 f (cp + 10) + 2 + 8 * u)), .ref m0], M1)) rfl rfl rfl ?_
  refine ps_st (S' := (77, [(0, .ref m0), (1, .int (nI k)), (2, .int (nI u)), (3, .int (nI x))], [.int (nI x), .int 2, .int (nI (cp + 14 + by4 f (cp + 10) + 2 + 8 * u)), .ref m0], M1)) rfl rfl rfl ?_
  refine ps_st (S' := (78, [(0, .ref m0), (1, .int (nI k)), (2, .int (nI u)), (3, .int (nI x))], [.int (2 * (nI x)), .int (nI (cp + 14 + by4 f (cp + 10) + 2 + 8 * u)), .ref m0], M1)) rfl rfl rfl ?_
  rw [nI_mul1 (p := 2) (k := x) (x := 2) (y := (nI x)) rfl rfl (by omega)]
  show pl _ _ _ (_, [(0, .ref m0), (1, .int (nI k)), (2, .int (nI u)), (3, .int (nI x))], [.int (nI (2 * x)), .int (nI (cp + 14 + by4 f (cp + 10) + 2 + 8 * u)), .ref m0], M1) _
  refine ps_st (S' := (79, [(0, .ref m0), (1, .int (nI k)), (2, .int (nI u)), (3, .int (nI x))], [.int ((nI (cp + 14 + by4 f (cp + 10) + 2 + 8 * u)) + (nI (2 * x))), .ref m0], M1)) rfl rfl rfl ?_
  rw [nI_add1 (p := cp + 14 + by4 f (cp + 10) + 2 + 8 * u) (k := 2 * x) (x := (nI (2 * x))) rfl (by omega)]
  show pl _ _ _ (_, [(0, .ref m0), (1, .int (nI k)), (2, .int (nI u)), (3, .int (nI x))], [.int (nI (cp + 14 + by4 f (cp + 10) + 2 + 8 * u + 2 * x)), .ref m0], M1) _
  refine pl_call (a := [.ref m0, .int (nI (cp + 14 + by4 f (cp + 10) + 2 + 8 * u + 2 * x))]) (rest := []) rfl rfl rfl (rd_u2 (n := n) (f := f) (p := (cp + 14 + by4 f (cp + 10) + 2 + 8 * u + 2 * x)) hR3 hF_8 (by omega)) (fun v11 M12 q13 => ?_)
  obtain ⟨rfl, rfl⟩ := q13
  show pl _ _ _ (82, [(0, .ref m0), (1, .int (nI k)), (2, .int (nI u)), (3, .int (nI x))], [.int (nI (by2 f (cp + 14 + by4 f (cp + 10) + 2 + 8 * u + 2 * x)))], M1) _
  have hu_79 := by2_lt f (cp + 14 + by4 f (cp + 10) + 2 + 8 * u + 2 * x)
  exact ps_reti rfl (⟨I2, R, rfl, hR3, hEI10, hER, hi4⟩)
theorem rd_rowK {g : xe_G} {m0 : Nat} {q : Nat → Nat} {z : Nat × Nat} {I : rI} {R : rR} {M : mi_H} {ko : Option (Nat × (Nat → Int32))} {m r x : Int32} (hR : RS g m0 q z I R M) (hK : KPR ko I R) (h0 : ¬ x < 0) (h1 : x ≤ 3) : pt (mT g) 239 [.ref m0, .int m, .int r, .int x] M (fun v M' => ∃ (I' : rI) (R' : rR), v = some (.int (roK ko m r x)) ∧ RS g m0 q z I' R' M' ∧ eqI [0] I I' ∧ eqR [] R R' ∧ I' 0 = some 0) := by
  cases ko with
  | none =>
    obtain ⟨kn, h2, h3⟩ := hK
    exact rd_row0 hR h2 h0 h1 h3
  | some r9 =>
    obtain ⟨h2, h3, -, hrd, tx, cN, A, E, N, mj, p1, pF, pM, pA, k1, k2, k3, k4, k5, k6, k7, rfl, rfl, m1, m2, m3, m4, m5, m6, m7, m8, ⟨a1, a2, a3, a4, a5⟩, -⟩ := hK
    have hN := by2_lt r9.2 8
    have hEP := (EP_of (whole_in k7)).1
    have hb1 := mbs_len m5
    have hb2 := mbs_len m6
    rw [roK_is k7]
    by_cases hi : m < 0 ∨ nI (mbs r9.2 r9.1 (by2 r9.2 pM) (pM + 2)).length ≤ m
    · rw [if_pos hi]
      exact rd_rowN hR h2 m2 h0 h1 h3 hi
    · rw [if_neg hi]
      obtain ⟨ei, li⟩ := i32_in hb2 hi
      obtain ⟨k, ek⟩ : ∃ k, k = m.toNatClampNeg := ⟨_, rfl⟩
      rw [← ek] at ei li ⊢
      subst ei
      have hin := code_in k7 hrd m6 li
      obtain ⟨cp, ecp⟩ : ∃ cp, (mK r9.2 r9.1 E ((mbs r9.2 r9.1 (by2 r9.2 pM) (pM + 2)).getD k 0)).2.1 = cp := ⟨_, rfl⟩
      rw [ecp] at hin ⊢
      unfold roI
      by_cases hp : cp = 0
      · rw [if_pos hp]
        exact rd_rowC hR h2 m2 a5 h0 h1 h3 li hb2 ecp hp
      · rw [if_neg hp]
        have hin := hin.resolve_left hp
        have hl9 := by2_lt r9.2 (cp + 14 + by4 r9.2 (cp + 10))
        by_cases h5 : r < 0 ∨ nI (by2 r9.2 (cp + 14 + by4 r9.2 (cp + 10))) ≤ r
        · rw [if_pos h5]
          exact rd_rowR hR h2 m2 a5 h0 h1 h3 li hb2 ecp hp hin h3 h5
        · rw [if_neg h5]
          obtain ⟨er, lr⟩ := i32_in hl9 h5
          obtain ⟨u, eu⟩ : ∃ u, u = r.toNatClampNeg := ⟨_, rfl⟩
          rw [← eu] at er lr ⊢
          subst er
          obtain ⟨ew, hw⟩ := i32_4 h0 h1
          obtain ⟨j, ej⟩ : ∃ j, j = x.toNatClampNeg := ⟨_, rfl⟩
          rw [← ej] at ew hw ⊢
          subst ew
          exact rd_rowV hR h2 m2 k1 a5 (by omega) h3 li hb2 ecp hp hin h3 lr
