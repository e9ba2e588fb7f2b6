set_option maxHeartbeats 1000000 in
theorem rd_bootstrap0 {g : xe_G} {m0 : Nat} {q : Nat → Nat} {z : Nat × Nat} {I : rI} {R : rR} {M : mi_H} {kn i t : Int32} (hR : RS g m0 q z I R M) (hi18 : I 18 = some kn)  (hk : kn < 0) : pt (mT g) 184 [.ref m0, .int i, .int t] M (fun v M' => (∃  (I' : rI) (R' : rR), v = some (.int (-1)) ∧ RS g m0 q z I' R' M' ∧ eqI [0] I I' ∧ eqR [] R R' ∧ I' 0 = some 0)) := by
  refine pt_in (b := mb_184 g) rfl (fun kf => ?_)
  show pl (mT g) kf (mb_184 g).2 (0, [(0, .ref m0), (1, .int i), (2, .int t)], [], M) _
  have hEI : eqI [0] I I := eqI.rf
  have hER : eqR [] R R := eqR.rf
  refine ps_st (S' := (1, [(0, .ref m0), (1, .int i), (2, .int t)], [.ref m0], M)) rfl rfl rfl ?_
  refine ps_st (S' := (2, [(0, .ref m0), (1, .int i), (2, .int t)], [.int 0, .ref m0], M)) rfl rfl rfl ?_
  refine pr_put (j := 0) rfl hR rfl (fun M1 I2 hR3 hi4 hI5 => ?_)
  have hi6 := (hI5 18 (by decide)).trans hi18
  have hEI7 := hEI.put hI5 (by decide)
  show pl _ _ _ (5, [(0, .ref m0), (1, .int i), (2, .int t)], [], M1) _
  refine ps_st (S' := (6, [(0, .ref m0), (1, .int i), (2, .int t)], [.ref m0], M1)) rfl rfl rfl ?_
  refine pr_int (j := 18) (S' := (9, [(0, .ref m0), (1, .int i), (2, .int t)], [.int kn], M1)) rfl hR3 rfl hi6 rfl ?_
  refine ps_if (S1 := (28, [], [], M1)) (S2 := (12, [(0, .ref m0), (1, .int i), (2, .int t)], [], M1)) rfl rfl rfl (fun c_9 => ?_) (fun c_9 => ?_)
  rotate_left
  · exact absurd (hk) (of_decide_eq_false c_9)
  refine ps_st (S' := (29, [], [.int (-1)], M1)) rfl rfl rfl ?_
  exact ps_ret rfl rfl (⟨I2, R, rfl, hR3, hEI7, hER, hi4⟩)
set_option maxHeartbeats 1000000 in
theorem rd_bootstrapN {g : xe_G} {m0 : Nat} {q : Nat → Nat} {z : Nat × Nat} {I : rI} {R : rR} {M : mi_H} {n2 bc : Nat} {i t : Int32} (hR : RS g m0 q z I R M) (hi18 : I 18 = some (nI n2)) (hi71 : I 71 = some (nI bc))  (hn2 : n2 ≤ 65540) (hi : (i < 0 ∨ nI bc ≤ i) ∨ t < 0) : pt (mT g) 184 [.ref m0, .int i, .int t] M (fun v M' => (∃  (I' : rI) (R' : rR), v = some (.int (-1)) ∧ RS g m0 q z I' R' M' ∧ eqI [0] I I' ∧ eqR [] R R' ∧ I' 0 = some 0)) := by
  refine pt_in (b := mb_184 g) rfl (fun kf => ?_)
  show pl (mT g) kf (mb_184 g).2 (0, [(0, .ref m0), (1, .int i), (2, .int t)], [], M) _
  have hEI : eqI [0] I I := eqI.rf
  have hER : eqR [] R R := eqR.rf
  refine ps_st (S' := (1, [(0, .ref m0), (1, .int i), (2, .int t)], [.ref m0], M)) rfl rfl rfl ?_
  refine ps_st (S' := (2, [(0, .ref m0), (1, .int i), (2, .int t)], [.int 0, .ref m0], M)) rfl rfl rfl ?_
  refine pr_put (j := 0) rfl hR rfl (fun M1 I2 hR3 hi4 hI5 => ?_)
  have hi6 := (hI5 18 (by decide)).trans hi18
  have hi7 := (hI5 71 (by decide)).trans hi71
  have hEI8 := hEI.put hI5 (by decide)
  show pl _ _ _ (5, [(0, .ref m0), (1, .int i), (2, .int t)], [], M1) _
  refine ps_st (S' := (6, [(0, .ref m0), (1, .int i), (2, .int t)], [.ref m0], M1)) rfl rfl rfl ?_
  refine pr_int (j := 18) (S' := (9, [(0, .ref m0), (1, .int i), (2, .int t)], [.int (nI n2)], M1)) rfl hR3 rfl hi6 rfl ?_
  refine ps_if (S1 := (28, [], [], M1)) (S2 := (12, [(0, .ref m0), (1, .int i), (2, .int t)], [], M1)) rfl rfl rfl (fun c_9 => ?_) (fun c_9 => ?_)
  · exact absurd (of_decide_eq_true c_9) (show ¬ ((nI n2) < 0) from fun h9 => absurd ((lt_nI (p := n2) (n := 0) (by omega) (by decide)).mp h9) (by omega))
  refine ps_st (S' := (13, [(0, .ref m0), (1, .int i), (2, .int t)], [.int i], M1)) rfl rfl rfl ?_
  refine ps_if (S1 := (28, [], [], M1)) (S2 := (16, [(0, .ref m0), (1, .int i), (2, .int t)], [], M1)) rfl rfl rfl (fun c_13 => ?_) (fun c_13 => ?_)
  · have c_13 : i < 0 := of_decide_eq_true c_13
    refine ps_st (S' := (29, [], [.int (-1)], M1)) rfl rfl rfl ?_
    exact ps_ret rfl rfl (⟨I2, R, rfl, hR3, hEI8, hER, hi4⟩)
  · have c_13 : ¬ (i < 0) := of_decide_eq_false c_13
    refine ps_st (S' := (17, [(0, .ref m0), (1, .int i), (2, .int t)], [.int i], M1)) rfl rfl rfl ?_
    refine ps_st (S' := (18, [(0, .ref m0), (1, .int i), (2, .int t)], [.ref m0, .int i], M1)) rfl rfl rfl ?_
    refine pr_int (j := 71) (S' := (21, [(0, .ref m0), (1, .int i), (2, .int t)], [.int (nI bc), .int i], M1)) rfl hR3 rfl hi7 rfl ?_
    refine ps_if2 (S1 := (28, [], [], M1)) (S2 := (24, [(0, .ref m0), (1, .int i), (2, .int t)], [], M1)) rfl rfl rfl (fun c_21 => ?_) (fun c_21 => ?_)
    · have c_21 : (nI bc) ≤ i := of_decide_eq_true c_21
      refine ps_st (S' := (29, [], [.int (-1)], M1)) rfl rfl rfl ?_
      exact ps_ret rfl rfl (⟨I2, R, rfl, hR3, hEI8, hER, hi4⟩)
    · have c_21 : ¬ ((nI bc) ≤ i) := of_decide_eq_false c_21
      refine ps_st (S' := (25, [(0, .ref m0), (1, .int i), (2, .int t)], [.int t], M1)) rfl rfl rfl ?_
      refine ps_if (S1 := (30, [(0, .ref m0), (1, .int i), (2, .int t)], [], M1)) (S2 := (28, [], [], M1)) rfl rfl rfl (fun c_25 => ?_) (fun c_25 => ?_)
      · have c_25 : 0 ≤ t := of_decide_eq_true c_25
        exact absurd hi (fun h9 => h9.elim (fun h8 => h8.elim c_13 c_21) (fun h8 => absurd h8 (Int32.not_lt.mpr c_25)))
      · have c_25 : ¬ (0 ≤ t) := of_decide_eq_false c_25
        refine ps_st (S' := (29, [], [.int (-1)], M1)) rfl rfl rfl ?_
        exact ps_ret rfl rfl (⟨I2, R, rfl, hR3, hEI8, hER, hi4⟩)
set_option maxHeartbeats 1000000 in
theorem rd_bootstrapB {g : xe_G} {m0 : Nat} {q : Nat → Nat} {z : Nat × Nat} {I : rI} {R : rR} {M : mi_H} {n : Nat} {f : Nat → Int32} {n2 bc bp j e : Nat} {t : Int32} (hR : RS g m0 q z I R M) (hi18 : I 18 = some (nI n2)) (hi71 : I 71 = some (nI bc)) (hi70 : I 70 = some (nI (bp - 2))) (hF : FK n f I R) (hn2 : n2 ≤ 65540) (hbp : 8 ≤ bp) (hbc : bc < 65536) (hj : j < bc) (he : e ≤ n) (hbs : s_bsE f e bc bp = some e) (ht0 : ¬ t < 0) (hb9 : nI (by2 f (bsP f j bp + 2)) < t) : pt (mT g) 184 [.ref m0, .int (nI j), .int t] M (fun v M' => (∃  (I' : rI) (R' : rR), v = some (.int (-1)) ∧ RS g m0 q z I' R' M' ∧ eqI [0] I I' ∧ eqR [] R R' ∧ I' 0 = some 0)) := by
  refine pt_in (b := mb_184 g) rfl (fun kf => ?_)
  show pl (mT g) kf (mb_184 g).2 (0, [(0, .ref m0), (1, .int (nI j)), (2, .int t)], [], M) _
  have hEI : eqI [0] I I := eqI.rf
  have hER : eqR [] R R := eqR.rf
  have hn := hF.1
  have hin8 := s_bsE_in (c := bc) (i := 0) (p := bp) hbs (by omega)
  have LL : ∀ (kf : Nat), (∀ (a p : Nat) (M1 : mi_H) (I1 : rI) (R1 : rR), (RS g m0 q z I1 R1 M1) → (eqI [0] I I1) → (eqR [] R R1) → (I1 0 = some 0) → (FK n f I1 R1) → (a ≤ j) → (s_bsE f e (bc - a) p = some e) → (bsP f (j - a) p = bsP f j bp) →  pl (mT g) kf (mb_184 g).2 (40, [(0, .ref m0), (1, .int (nI j)), (2, .int t), (3, .int (nI p)), (4, .int (nI a))], [], M1) (fun v M' => (∃  (I' : rI) (R' : rR), v = some (.int (-1)) ∧ RS g m0 q z I' R' M' ∧ eqI [0] I I' ∧ eqR [] R R' ∧ I' 0 = some 0))) := by
    intro kf
    induction kf with
    | zero => exact (by intros; exact pl_0)
    | succ kf ih =>
      intro a p M1 I1 R1 hR1 hEI1 hER1 hl0 hF1 ha hf hp
      have hn := hF1.1
      have hin9 := s_bsE_in (i := a) (p := p) hf (by omega)
      refine ps_st1 (S' := (42, [(0, .ref m0), (1, .int (nI j)), (2, .int t), (3, .int (nI p)), (4, .int (nI a))], [.int (nI a)], M1)) rfl rfl rfl ?_
      refine ps_st (S' := (43, [(0, .ref m0), (1, .int (nI j)), (2, .int t), (3, .int (nI p)), (4, .int (nI a))], [.int (nI j), .int (nI a)], M1)) rfl rfl rfl ?_
      refine ps_if2 (S1 := (66, [(0, .ref m0), (1, .int (nI j)), (2, .int t), (3, .int (nI p)), (4, .int (nI a))], [], M1)) (S2 := (46, [(0, .ref m0), (1, .int (nI j)), (2, .int t), (3, .int (nI p)), (4, .int (nI a))], [], M1)) rfl rfl rfl (fun c_43 => ?_) (fun c_43 => ?_)
      · have c_43 : (nI j) ≤ (nI a) := of_decide_eq_true c_43
        have n_43 : j ≤ a := (le_nI (p := j) (n := a) (by omega) (by omega)).mp c_43
        have eP : p = bsP f j bp := by rw [← hp, show j - a = 0 by omega]; rfl
        rw [← eP] at hb9
        have hu8 := by2_lt f (p + 2)
        refine ps_st (S' := (67, [(0, .ref m0), (1, .int (nI j)), (2, .int t), (3, .int (nI p)), (4, .int (nI a))], [.int t], M1)) rfl rfl rfl ?_
        refine ps_if (S1 := (76, [(0, .ref m0), (1, .int (nI j)), (2, .int t), (3, .int (nI p)), (4, .int (nI a))], [], M1)) (S2 := (70, [(0, .ref m0), (1, .int (nI j)), (2, .int t), (3, .int (nI p)), (4, .int (nI a))], [], M1)) rfl rfl rfl (fun c_67 => ?_) (fun c_67 => ?_)
        rotate_left
        · exact absurd (show ¬ t = 0 from fun h9 => absurd hb9 (by rw [h9]; exact nI_n0 (by omega))) (of_decide_eq_false c_67)
        refine ps_st (S' := (77, [(0, .ref m0), (1, .int (nI j)), (2, .int t), (3, .int (nI p)), (4, .int (nI a))], [.int t], M1)) rfl rfl rfl ?_
        refine ps_st (S' := (78, [(0, .ref m0), (1, .int (nI j)), (2, .int t), (3, .int (nI p)), (4, .int (nI a))], [.ref m0, .int t], M1)) rfl rfl rfl ?_
        refine ps_st (S' := (79, [(0, .ref m0), (1, .int (nI j)), (2, .int t), (3, .int (nI p)), (4, .int (nI a))], [.int (nI p), .ref m0, .int t], M1)) rfl rfl rfl ?_
        refine ps_st (S' := (80, [(0, .ref m0), (1, .int (nI j)), (2, .int t), (3, .int (nI p)), (4, .int (nI a))], [.int 2, .int (nI p), .ref m0, .int t], M1)) rfl rfl rfl ?_
        refine ps_st (S' := (81, [(0, .ref m0), (1, .int (nI j)), (2, .int t), (3, .int (nI p)), (4, .int (nI a))], [.int ((nI p) + 2), .ref m0, .int t], M1)) rfl rfl rfl ?_
        rw [nI_add1 (p := p) (k := 2) (x := 2) rfl (by omega)]
        show pl _ _ _ (_, [(0, .ref m0), (1, .int (nI j)), (2, .int t), (3, .int (nI p)), (4, .int (nI a))], [.int (nI (p + 2)), .ref m0, .int t], M1) _
        refine pl_call (a := [.ref m0, .int (nI (p + 2))]) (rest := [.int t]) rfl rfl rfl (rd_u2 (n := n) (f := f) (p := (p + 2)) hR1 hF1 (by omega)) (fun v1 M2 q3 => ?_)
        obtain ⟨rfl, rfl⟩ := q3
        show pl _ _ _ (84, [(0, .ref m0), (1, .int (nI j)), (2, .int t), (3, .int (nI p)), (4, .int (nI a))], [.int (nI (by2 f (p + 2))), .int t], M1) _
        have hu_81 := by2_lt f (p + 2)
        refine ps_if2 (S1 := (91, [(0, .ref m0), (1, .int (nI j)), (2, .int t), (3, .int (nI p)), (4, .int (nI a))], [], M1)) (S2 := (87, [(0, .ref m0), (1, .int (nI j)), (2, .int t), (3, .int (nI p)), (4, .int (nI a))], [], M1)) rfl rfl rfl (fun c_84 => ?_) (fun c_84 => ?_)
        · exact absurd (of_decide_eq_true c_84) (Int32.not_le.mpr hb9)
        refine ps_st (S' := (88, [(0, .ref m0), (1, .int (nI j)), (2, .int t), (3, .int (nI p)), (4, .int (nI a))], [.int (-1)], M1)) rfl rfl rfl ?_
        refine ps_st (S' := (102, [], [.int (-1)], M1)) rfl rfl rfl ?_
        exact ps_ret rfl rfl (⟨I1, R1, rfl, hR1, hEI1, hER1, hl0⟩)
      · have c_43 : ¬ ((nI j) ≤ (nI a)) := of_decide_eq_false c_43
        have n_43 : ¬ (j ≤ a) := fun h9 => c_43 ((le_nI (p := j) (n := a) (by omega) (by omega)).mpr h9)
        refine ps_st (S' := (47, [(0, .ref m0), (1, .int (nI j)), (2, .int t), (3, .int (nI p)), (4, .int (nI a))], [.int (nI p)], M1)) rfl rfl rfl ?_
        refine ps_st (S' := (48, [(0, .ref m0), (1, .int (nI j)), (2, .int t), (3, .int (nI p)), (4, .int (nI a))], [.int 4, .int (nI p)], M1)) rfl rfl rfl ?_
        refine ps_st (S' := (49, [(0, .ref m0), (1, .int (nI j)), (2, .int t), (3, .int (nI p)), (4, .int (nI a))], [.int 2, .int 4, .int (nI p)], M1)) rfl rfl rfl ?_
        refine ps_st (S' := (50, [(0, .ref m0), (1, .int (nI j)), (2, .int t), (3, .int (nI p)), (4, .int (nI a))], [.ref m0, .int 2, .int 4, .int (nI p)], M1)) rfl rfl rfl ?_
        refine ps_st (S' := (51, [(0, .ref m0), (1, .int (nI j)), (2, .int t), (3, .int (nI p)), (4, .int (nI a))], [.int (nI p), .ref m0, .int 2, .int 4, .int (nI p)], M1)) rfl rfl rfl ?_
        refine ps_st (S' := (52, [(0, .ref m0), (1, .int (nI j)), (2, .int t), (3, .int (nI p)), (4, .int (nI a))], [.int 2, .int (nI p), .ref m0, .int 2, .int 4, .int (nI p)], M1)) rfl rfl rfl ?_
        refine ps_st (S' := (53, [(0, .ref m0), (1, .int (nI j)), (2, .int t), (3, .int (nI p)), (4, .int (nI a))], [.int ((nI p) + 2), .ref m0, .int 2, .int 4, .int (nI p)], M1)) rfl rfl rfl ?_
        rw [nI_add1 (p := p) (k := 2) (x := 2) rfl (by omega)]
        show pl _ _ _ (_, [(0, .ref m0), (1, .int (nI j)), (2, .int t), (3, .int (nI p)), (4, .int (nI a))], [.int (nI (p + 2)), .ref m0, .int 2, .int 4, .int (nI p)], M1) _
        refine pl_call (a := [.ref m0, .int (nI (p + 2))]) (rest := [.int 2, .int 4, .int (nI p)]) rfl rfl rfl (rd_u2 (n := n) (f := f) (p := (p + 2)) hR1 hF1 (by omega)) (fun v4 M5 q6 => ?_)
        obtain ⟨rfl, rfl⟩ := q6
        show pl _ _ _ (56, [(0, .ref m0), (1, .int (nI j)), (2, .int t), (3, .int (nI p)), (4, .int (nI a))], [.int (nI (by2 f (p + 2))), .int 2, .int 4, .int (nI p)], M1) _
        have hu_53 := by2_lt f (p + 2)
        refine ps_st (S' := (57, [(0, .ref m0), (1, .int (nI j)), (2, .int t), (3, .int (nI p)), (4, .int (nI a))], [.int (2 * (nI (by2 f (p + 2)))), .int 4, .int (nI p)], M1)) rfl rfl rfl ?_
        rw [nI_mul1 (p := 2) (k := by2 f (p + 2)) (x := 2) (y := (nI (by2 f (p + 2)))) rfl rfl (by omega)]
        show pl _ _ _ (_, [(0, .ref m0), (1, .int (nI j)), (2, .int t), (3, .int (nI p)), (4, .int (nI a))], [.int (nI (2 * (by2 f (p + 2)))), .int 4, .int (nI p)], M1) _
        refine ps_st (S' := (58, [(0, .ref m0), (1, .int (nI j)), (2, .int t), (3, .int (nI p)), (4, .int (nI a))], [.int (4 + (nI (2 * (by2 f (p + 2))))), .int (nI p)], M1)) rfl rfl rfl ?_
        rw [nI_add2 (p := 4) (k := 2 * (by2 f (p + 2))) (x := 4) (y := (nI (2 * (by2 f (p + 2))))) rfl rfl (by omega)]
        show pl _ _ _ (_, [(0, .ref m0), (1, .int (nI j)), (2, .int t), (3, .int (nI p)), (4, .int (nI a))], [.int (nI (4 + 2 * (by2 f (p + 2)))), .int (nI p)], M1) _
        refine ps_st (S' := (59, [(0, .ref m0), (1, .int (nI j)), (2, .int t), (3, .int (nI p)), (4, .int (nI a))], [.int ((nI p) + (nI (4 + 2 * (by2 f (p + 2)))))], M1)) rfl rfl rfl ?_
        rw [nI_add1 (p := p) (k := 4 + 2 * (by2 f (p + 2))) (x := (nI (4 + 2 * (by2 f (p + 2))))) rfl (by omega)]
        rw [show nI (p + (4 + 2 * (by2 f (p + 2)))) = nI (p + 4 + 2 * (by2 f (p + 2))) from congrArg nI (by omega)]
        show pl _ _ _ (_, [(0, .ref m0), (1, .int (nI j)), (2, .int t), (3, .int (nI p)), (4, .int (nI a))], [.int (nI (p + 4 + 2 * (by2 f (p + 2))))], M1) _
        refine ps_st (S' := (60, [(3, .int (nI (p + 4 + 2 * (by2 f (p + 2))))), (0, .ref m0), (1, .int (nI j)), (2, .int t), (4, .int (nI a))], [], M1)) rfl rfl rfl ?_
        refine ps_st (S' := (63, [(4, .int ((nI a) + 1)), (3, .int (nI (p + 4 + 2 * (by2 f (p + 2))))), (0, .ref m0), (1, .int (nI j)), (2, .int t)], [], M1)) rfl rfl rfl ?_
        rw [nI_add1 (p := a) (k := 1) (x := 1) rfl (by omega)]
        show pl _ _ _ (_, [(4, .int (nI (a + 1))), (3, .int (nI (p + 4 + 2 * (by2 f (p + 2))))), (0, .ref m0), (1, .int (nI j)), (2, .int t)], [], M1) _
        refine ps_st (S' := (40, [(0, .ref m0), (1, .int (nI j)), (2, .int t), (3, .int (nI (p + 4 + 2 * (by2 f (p + 2))))), (4, .int (nI (a + 1)))], [], M1)) rfl rfl rfl ?_
        exact ih (a + 1) (p + 4 + 2 * by2 f (p + 2)) M1 I1 R1 hR1 hEI1 hER1 hl0 hF1 (by omega) (hin9.2.2) (by
            rw [← hp, bsP_st (i := a) (by omega)])
  refine ps_st (S' := (1, [(0, .ref m0), (1, .int (nI j)), (2, .int t)], [.ref m0], M)) rfl rfl rfl ?_
  refine ps_st (S' := (2, [(0, .ref m0), (1, .int (nI j)), (2, .int t)], [.int 0, .ref m0], M)) rfl rfl rfl ?_
  refine pr_put (j := 0) rfl hR rfl (fun M7 I8 hR9 hi10 hI11 => ?_)
  have hi12 := (hI11 18 (by decide)).trans hi18
  have hi13 := (hI11 71 (by decide)).trans hi71
  have hi14 := (hI11 70 (by decide)).trans hi70
  have hF_15 := hF.mono (pIx hI11 (by decide)) (fun _ _ => rfl)
  have hEI16 := hEI.put hI11 (by decide)
  show pl _ _ _ (5, [(0, .ref m0), (1, .int (nI j)), (2, .int t)], [], M7) _
  refine ps_st (S' := (6, [(0, .ref m0), (1, .int (nI j)), (2, .int t)], [.ref m0], M7)) rfl rfl rfl ?_
  refine pr_int (j := 18) (S' := (9, [(0, .ref m0), (1, .int (nI j)), (2, .int t)], [.int (nI n2)], M7)) rfl hR9 rfl hi12 rfl ?_
  refine ps_if (S1 := (28, [], [], M7)) (S2 := (12, [(0, .ref m0), (1, .int (nI j)), (2, .int t)], [], M7)) rfl rfl rfl (fun c_9 => ?_) (fun c_9 => ?_)
  · exact absurd (of_decide_eq_true c_9) (show ¬ ((nI n2) < 0) from fun h9 => absurd ((lt_nI (p := n2) (n := 0) (by omega) (by decide)).mp h9) (by omega))
  refine ps_st (S' := (13, [(0, .ref m0), (1, .int (nI j)), (2, .int t)], [.int (nI j)], M7)) rfl rfl rfl ?_
  refine ps_if (S1 := (28, [], [], M7)) (S2 := (16, [(0, .ref m0), (1, .int (nI j)), (2, .int t)], [], M7)) rfl rfl rfl (fun c_13 => ?_) (fun c_13 => ?_)
  · exact absurd (of_decide_eq_true c_13) (nI_n0 (by omega))
  refine ps_st (S' := (17, [(0, .ref m0), (1, .int (nI j)), (2, .int t)], [.int (nI j)], M7)) rfl rfl rfl ?_
  refine ps_st (S' := (18, [(0, .ref m0), (1, .int (nI j)), (2, .int t)], [.ref m0, .int (nI j)], M7)) rfl rfl rfl ?_
  refine pr_int (j := 71) (S' := (21, [(0, .ref m0), (1, .int (nI j)), (2, .int t)], [.int (nI bc), .int (nI j)], M7)) rfl hR9 rfl hi13 rfl ?_
  refine ps_if2 (S1 := (28, [], [], M7)) (S2 := (24, [(0, .ref m0), (1, .int (nI j)), (2, .int t)], [], M7)) rfl rfl rfl (fun c_21 => ?_) (fun c_21 => ?_)
  · exact absurd (of_decide_eq_true c_21) (Int32.not_le.mpr ((lt_nI (by omega) (by omega)).mpr hj))
  refine ps_st (S' := (25, [(0, .ref m0), (1, .int (nI j)), (2, .int t)], [.int t], M7)) rfl rfl rfl ?_
  refine ps_if (S1 := (30, [(0, .ref m0), (1, .int (nI j)), (2, .int t)], [], M7)) (S2 := (28, [], [], M7)) rfl rfl rfl (fun c_25 => ?_) (fun c_25 => ?_)
  rotate_left
  · exact absurd (Int32.not_lt.mp ht0) (of_decide_eq_false c_25)
  refine ps_st (S' := (31, [(0, .ref m0), (1, .int (nI j)), (2, .int t)], [.ref m0], M7)) rfl rfl rfl ?_
  refine pr_int (j := 70) (S' := (34, [(0, .ref m0), (1, .int (nI j)), (2, .int t)], [.int (nI (bp - 2))], M7)) rfl hR9 rfl hi14 rfl ?_
  refine ps_st (S' := (35, [(0, .ref m0), (1, .int (nI j)), (2, .int t)], [.int 2, .int (nI (bp - 2))], M7)) rfl rfl rfl ?_
  refine ps_st (S' := (36, [(0, .ref m0), (1, .int (nI j)), (2, .int t)], [.int ((nI (bp - 2)) + 2)], M7)) rfl rfl rfl ?_
  rw [nI_add1 (p := bp - 2) (k := 2) (x := 2) rfl (by omega)]
  show pl _ _ _ (_, [(0, .ref m0), (1, .int (nI j)), (2, .int t)], [.int (nI (bp - 2 + 2))], M7) _
  refine ps_st (S' := (37, [(3, .int (nI (bp - 2 + 2))), (0, .ref m0), (1, .int (nI j)), (2, .int t)], [], M7)) rfl rfl rfl ?_
  rw [show bp - 2 + 2 = bp by omega]
  show pl _ _ _ (37, [(3, .int (nI bp)), (0, .ref m0), (1, .int (nI j)), (2, .int t)], [], M7) _
  refine ps_st (S' := (38, [(3, .int (nI bp)), (0, .ref m0), (1, .int (nI j)), (2, .int t)], [.int 0], M7)) rfl rfl rfl ?_
  refine ps_st (S' := (40, [(0, .ref m0), (1, .int (nI j)), (2, .int t), (3, .int (nI bp)), (4, .int 0)], [], M7)) rfl rfl rfl ?_
  exact (LL kf) (0) (bp) M7 I8 R hR9 hEI16 hER hi10 hF_15 (by omega) (hbs) (rfl)
set_option maxHeartbeats 1000000 in
theorem rd_bootstrapG {g : xe_G} {m0 : Nat} {q : Nat → Nat} {z : Nat × Nat} {I : rI} {R : rR} {M : mi_H} {n : Nat} {f : Nat → Int32} {n2 bc bp j e u : Nat} (hR : RS g m0 q z I R M) (hi18 : I 18 = some (nI n2)) (hi71 : I 71 = some (nI bc)) (hi70 : I 70 = some (nI (bp - 2))) (hF : FK n f I R) (hn2 : n2 ≤ 65540) (hbp : 8 ≤ bp) (hbc : bc < 65536) (hj : j < bc) (he : e ≤ n) (hbs : s_bsE f e bc bp = some e) (hu : u ≤ by2 f (bsP f j bp + 2)) : pt (mT g) 184 [.ref m0, .int (nI j), .int (nI u)] M (fun v M' => (∃  (I' : rI) (R' : rR), v = some (.int (bsV f (bsP f j bp) u)) ∧ RS g m0 q z I' R' M' ∧ eqI [0] I I' ∧ eqR [] R R' ∧ I' 0 = some 0)) := by
  refine pt_in (b := mb_184 g) rfl (fun kf => ?_)
  show pl (mT g) kf (mb_184 g).2 (0, [(0, .ref m0), (1, .int (nI j)), (2, .int (nI u))], [], M) _
  have hEI : eqI [0] I I := eqI.rf
  have hER : eqR [] R R := eqR.rf
  have hn := hF.1
  have hin8 := s_bsE_in (c := bc) (i := 0) (p := bp) hbs (by omega)
  have hu7 := by2_lt f (bsP f j bp + 2)
  have LL : ∀ (kf : Nat), (∀ (a p : Nat) (M1 : mi_H) (I1 : rI) (R1 : rR), (RS g m0 q z I1 R1 M1) → (eqI [0] I I1) → (eqR [] R R1) → (I1 0 = some 0) → (FK n f I1 R1) → (a ≤ j) → (s_bsE f e (bc - a) p = some e) → (bsP f (j - a) p = bsP f j bp) →  pl (mT g) kf (mb_184 g).2 (40, [(0, .ref m0), (1, .int (nI j)), (2, .int (nI u)), (3, .int (nI p)), (4, .int (nI a))], [], M1) (fun v M' => (∃  (I' : rI) (R' : rR), v = some (.int (bsV f (bsP f j bp) u)) ∧ RS g m0 q z I' R' M' ∧ eqI [0] I I' ∧ eqR [] R R' ∧ I' 0 = some 0))) := by
    intro kf
    induction kf with
    | zero => exact (by intros; exact pl_0)
    | succ kf ih =>
      intro a p M1 I1 R1 hR1 hEI1 hER1 hl0 hF1 ha hf hp
      have hn := hF1.1
      have hin9 := s_bsE_in (i := a) (p := p) hf (by omega)
      refine ps_st1 (S' := (42, [(0, .ref m0), (1, .int (nI j)), (2, .int (nI u)), (3, .int (nI p)), (4, .int (nI a))], [.int (nI a)], M1)) rfl rfl rfl ?_
      refine ps_st (S' := (43, [(0, .ref m0), (1, .int (nI j)), (2, .int (nI u)), (3, .int (nI p)), (4, .int (nI a))], [.int (nI j), .int (nI a)], M1)) rfl rfl rfl ?_
      refine ps_if2 (S1 := (66, [(0, .ref m0), (1, .int (nI j)), (2, .int (nI u)), (3, .int (nI p)), (4, .int (nI a))], [], M1)) (S2 := (46, [(0, .ref m0), (1, .int (nI j)), (2, .int (nI u)), (3, .int (nI p)), (4, .int (nI a))], [], M1)) rfl rfl rfl (fun c_43 => ?_) (fun c_43 => ?_)
      · have c_43 : (nI j) ≤ (nI a) := of_decide_eq_true c_43
        have n_43 : j ≤ a := (le_nI (p := j) (n := a) (by omega) (by omega)).mp c_43
        have eP : p = bsP f j bp := by rw [← hp, show j - a = 0 by omega]; rfl
        rw [← eP] at hu
        have hu8 := by2_lt f (p + 2)
        refine ps_st (S' := (67, [(0, .ref m0), (1, .int (nI j)), (2, .int (nI u)), (3, .int (nI p)), (4, .int (nI a))], [.int (nI u)], M1)) rfl rfl rfl ?_
        refine ps_if (S1 := (76, [(0, .ref m0), (1, .int (nI j)), (2, .int (nI u)), (3, .int (nI p)), (4, .int (nI a))], [], M1)) (S2 := (70, [(0, .ref m0), (1, .int (nI j)), (2, .int (nI u)), (3, .int (nI p)), (4, .int (nI a))], [], M1)) rfl rfl rfl (fun c_67 => ?_) (fun c_67 => ?_)
        · have c_67 : ¬ (nI u) = 0 := of_decide_eq_true c_67
          have n_67 : ¬ (u = 0) := fun h9 => c_67 ((eq_nI (p := u) (n := 0) (by omega) (by decide)).mpr h9)
          refine ps_st (S' := (77, [(0, .ref m0), (1, .int (nI j)), (2, .int (nI u)), (3, .int (nI p)), (4, .int (nI a))], [.int (nI u)], M1)) rfl rfl rfl ?_
          refine ps_st (S' := (78, [(0, .ref m0), (1, .int (nI j)), (2, .int (nI u)), (3, .int (nI p)), (4, .int (nI a))], [.ref m0, .int (nI u)], M1)) rfl rfl rfl ?_
          refine ps_st (S' := (79, [(0, .ref m0), (1, .int (nI j)), (2, .int (nI u)), (3, .int (nI p)), (4, .int (nI a))], [.int (nI p), .ref m0, .int (nI u)], M1)) rfl rfl rfl ?_
          refine ps_st (S' := (80, [(0, .ref m0), (1, .int (nI j)), (2, .int (nI u)), (3, .int (nI p)), (4, .int (nI a))], [.int 2, .int (nI p), .ref m0, .int (nI u)], M1)) rfl rfl rfl ?_
          refine ps_st (S' := (81, [(0, .ref m0), (1, .int (nI j)), (2, .int (nI u)), (3, .int (nI p)), (4, .int (nI a))], [.int ((nI p) + 2), .ref m0, .int (nI u)], M1)) rfl rfl rfl ?_
          rw [nI_add1 (p := p) (k := 2) (x := 2) rfl (by omega)]
          show pl _ _ _ (_, [(0, .ref m0), (1, .int (nI j)), (2, .int (nI u)), (3, .int (nI p)), (4, .int (nI a))], [.int (nI (p + 2)), .ref m0, .int (nI u)], M1) _
          refine pl_call (a := [.ref m0, .int (nI (p + 2))]) (rest := [.int (nI u)]) rfl rfl rfl (rd_u2 (n := n) (f := f) (p := (p + 2)) hR1 hF1 (by omega)) (fun v1 M2 q3 => ?_)
          obtain ⟨rfl, rfl⟩ := q3
          show pl _ _ _ (84, [(0, .ref m0), (1, .int (nI j)), (2, .int (nI u)), (3, .int (nI p)), (4, .int (nI a))], [.int (nI (by2 f (p + 2))), .int (nI u)], M1) _
          have hu_81 := by2_lt f (p + 2)
          refine ps_if2 (S1 := (91, [(0, .ref m0), (1, .int (nI j)), (2, .int (nI u)), (3, .int (nI p)), (4, .int (nI a))], [], M1)) (S2 := (87, [(0, .ref m0), (1, .int (nI j)), (2, .int (nI u)), (3, .int (nI p)), (4, .int (nI a))], [], M1)) rfl rfl rfl (fun c_84 => ?_) (fun c_84 => ?_)
          rotate_left
          · exact absurd ((le_nI (p := u) (n := by2 f (p + 2)) (by omega) (Nat.lt_trans (by2_lt _ _) (by decide))).mpr hu) (of_decide_eq_false c_84)
          refine ps_st (S' := (92, [(0, .ref m0), (1, .int (nI j)), (2, .int (nI u)), (3, .int (nI p)), (4, .int (nI a))], [.ref m0], M1)) rfl rfl rfl ?_
          refine ps_st (S' := (93, [(0, .ref m0), (1, .int (nI j)), (2, .int (nI u)), (3, .int (nI p)), (4, .int (nI a))], [.int (nI p), .ref m0], M1)) rfl rfl rfl ?_
          refine ps_st (S' := (94, [(0, .ref m0), (1, .int (nI j)), (2, .int (nI u)), (3, .int (nI p)), (4, .int (nI a))], [.int 2, .int (nI p), .ref m0], M1)) rfl rfl rfl ?_
          refine ps_st (S' := (95, [(0, .ref m0), (1, .int (nI j)), (2, .int (nI u)), (3, .int (nI p)), (4, .int (nI a))], [.int ((nI p) + 2), .ref m0], M1)) rfl rfl rfl ?_
          rw [nI_add1 (p := p) (k := 2) (x := 2) rfl (by omega)]
          show pl _ _ _ (_, [(0, .ref m0), (1, .int (nI j)), (2, .int (nI u)), (3, .int (nI p)), (4, .int (nI a))], [.int (nI (p + 2)), .ref m0], M1) _
          refine ps_st (S' := (96, [(0, .ref m0), (1, .int (nI j)), (2, .int (nI u)), (3, .int (nI p)), (4, .int (nI a))], [.int 2, .int (nI (p + 2)), .ref m0], M1)) rfl rfl rfl ?_
          refine ps_st (S' := (97, [(0, .ref m0), (1, .int (nI j)), (2, .int (nI u)), (3, .int (nI p)), (4, .int (nI a))], [.int (nI u), .int 2, .int (nI (p + 2)), .ref m0], M1)) rfl rfl rfl ?_
          refine ps_st (S' := (98, [(0, .ref m0), (1, .int (nI j)), (2, .int (nI u)), (3, .int (nI p)), (4, .int (nI a))], [.int (2 * (nI u)), .int (nI (p + 2)), .ref m0], M1)) rfl rfl rfl ?_
          rw [nI_mul1 (p := 2) (k := u) (x := 2) (y := (nI u)) rfl rfl (by omega)]
          show pl _ _ _ (_, [(0, .ref m0), (1, .int (nI j)), (2, .int (nI u)), (3, .int (nI p)), (4, .int (nI a))], [.int (nI (2 * u)), .int (nI (p + 2)), .ref m0], M1) _
          refine ps_st (S' := (99, [(0, .ref m0), (1, .int (nI j)), (2, .int (nI u)), (3, .int (nI p)), (4, .int (nI a))], [.int ((nI (p + 2)) + (nI (2 * u))), .ref m0], M1)) rfl rfl rfl ?_
          rw [nI_add1 (p := p + 2) (k := 2 * u) (x := (nI (2 * u))) rfl (by omega)]
          show pl _ _ _ (_, [(0, .ref m0), (1, .int (nI j)), (2, .int (nI u)), (3, .int (nI p)), (4, .int (nI a))], [.int (nI (p + 2 + 2 * u)), .ref m0], M1) _
          refine pl_call (a := [.ref m0, .int (nI (p + 2 + 2 * u))]) (rest := []) rfl rfl rfl (rd_u2 (n := n) (f := f) (p := (p + 2 + 2 * u)) hR1 hF1 (by omega)) (fun v4 M5 q6 => ?_)
          obtain ⟨rfl, rfl⟩ := q6
          show pl _ _ _ (102, [], [.int (nI (by2 f (p + 2 + 2 * u)))], M1) _
          have hu_99 := by2_lt f (p + 2 + 2 * u)
          exact ps_reti rfl (⟨I1, R1, congrArg (fun x => some (Value.int x)) (show (nI (by2 f (p + 2 + 2 * u))) = bsV f (bsP f j bp) u from by rw [← eP]; unfold bsV; rw [if_neg (by omega)]), hR1, hEI1, hER1, hl0⟩)
        · have c_67 : ¬ (¬ (nI u) = 0) := of_decide_eq_false c_67
          have n_67 : u = 0 := (eq_nI (p := u) (n := 0) (by omega) (by decide)).mp (Decidable.not_not.mp c_67)
          refine ps_st (S' := (71, [(0, .ref m0), (1, .int (nI j)), (2, .int (nI u)), (3, .int (nI p)), (4, .int (nI a))], [.ref m0], M1)) rfl rfl rfl ?_
          refine ps_st (S' := (72, [(0, .ref m0), (1, .int (nI j)), (2, .int (nI u)), (3, .int (nI p)), (4, .int (nI a))], [.int (nI p), .ref m0], M1)) rfl rfl rfl ?_
          refine pl_call (a := [.ref m0, .int (nI p)]) (rest := []) rfl rfl rfl (rd_u2 (n := n) (f := f) (p := p) hR1 hF1 (by omega)) (fun v7 M8 q9 => ?_)
          obtain ⟨rfl, rfl⟩ := q9
          show pl _ _ _ (75, [(0, .ref m0), (1, .int (nI j)), (2, .int (nI u)), (3, .int (nI p)), (4, .int (nI a))], [.int (nI (by2 f p))], M1) _
          have hu_72 := by2_lt f p
          exact ps_reti rfl (⟨I1, R1, congrArg (fun x => some (Value.int x)) (show (nI (by2 f p)) = bsV f (bsP f j bp) u from by rw [← eP]; unfold bsV; rw [if_pos (by omega)]), hR1, hEI1, hER1, hl0⟩)
      · have c_43 : ¬ ((nI j) ≤ (nI a)) := of_decide_eq_false c_43
        have n_43 : ¬ (j ≤ a) := fun h9 => c_43 ((le_nI (p := j) (n := a) (by omega) (by omega)).mpr h9)
        refine ps_st (S' := (47, [(0, .ref m0), (1, .int (nI j)), (2, .int (nI u)), (3, .int (nI p)), (4, .int (nI a))], [.int (nI p)], M1)) rfl rfl rfl ?_
        refine ps_st (S' := (48, [(0, .ref m0), (1, .int (nI j)), (2, .int (nI u)), (3, .int (nI p)), (4, .int (nI a))], [.int 4, .int (nI p)], M1)) rfl rfl rfl ?_
        refine ps_st (S' := (49, [(0, .ref m0), (1, .int (nI j)), (2, .int (nI u)), (3, .int (nI p)), (4, .int (nI a))], [.int 2, .int 4, .int (nI p)], M1)) rfl rfl rfl ?_
        refine ps_st (S' := (50, [(0, .ref m0), (1, .int (nI j)), (2, .int (nI u)), (3, .int (nI p)), (4, .int (nI a))], [.ref m0, .int 2, .int 4, .int (nI p)], M1)) rfl rfl rfl ?_
        refine ps_st (S' := (51, [(0, .ref m0), (1, .int (nI j)), (2, .int (nI u)), (3, .int (nI p)), (4, .int (nI a))], [.int (nI p), .ref m0, .int 2, .int 4, .int (nI p)], M1)) rfl rfl rfl ?_
        refine ps_st (S' := (52, [(0, .ref m0), (1, .int (nI j)), (2, .int (nI u)), (3, .int (nI p)), (4, .int (nI a))], [.int 2, .int (nI p), .ref m0, .int 2, .int 4, .int (nI p)], M1)) rfl rfl rfl ?_
        refine ps_st (S' := (53, [(0, .ref m0), (1, .int (nI j)), (2, .int (nI u)), (3, .int (nI p)), (4, .int (nI a))], [.int ((nI p) + 2), .ref m0, .int 2, .int 4, .int (nI p)], M1)) rfl rfl rfl ?_
        rw [nI_add1 (p := p) (k := 2) (x := 2) rfl (by omega)]
        show pl _ _ _ (_, [(0, .ref m0), (1, .int (nI j)), (2, .int (nI u)), (3, .int (nI p)), (4, .int (nI a))], [.int (nI (p + 2)), .ref m0, .int 2, .int 4, .int (nI p)], M1) _
        refine pl_call (a := [.ref m0, .int (nI (p + 2))]) (rest := [.int 2, .int 4, .int (nI p)]) rfl rfl rfl (rd_u2 (n := n) (f := f) (p := (p + 2)) hR1 hF1 (by omega)) (fun v10 M11 q12 => ?_)
        obtain ⟨rfl, rfl⟩ := q12
        show pl _ _ _ (56, [(0, .ref m0), (1, .int (nI j)), (2, .int (nI u)), (3, .int (nI p)), (4, .int (nI a))], [.int (nI (by2 f (p + 2))), .int 2, .int 4, .int (nI p)], M1) _
        have hu_53 := by2_lt f (p + 2)
        refine ps_st (S' := (57, [(0, .ref m0), (1, .int (nI j)), (2, .int (nI u)), (3, .int (nI p)), (4, .int (nI a))], [.int (2 * (nI (by2 f (p + 2)))), .int 4, .int (nI p)], M1)) rfl rfl rfl ?_
        rw [nI_mul1 (p := 2) (k := by2 f (p + 2)) (x := 2) (y := (nI (by2 f (p + 2)))) rfl rfl (by omega)]
        show pl _ _ _ (_, [(0, .ref m0), (1, .int (nI j)), (2, .int (nI u)), (3, .int (nI p)), (4, .int (nI a))], [.int (nI (2 * (by2 f (p + 2)))), .int 4, .int (nI p)], M1) _
        refine ps_st (S' := (58, [(0, .ref m0), (1, .int (nI j)), (2, .int (nI u)), (3, .int (nI p)), (4, .int (nI a))], [.int (4 + (nI (2 * (by2 f (p + 2))))), .int (nI p)], M1)) rfl rfl rfl ?_
        rw [nI_add2 (p := 4) (k := 2 * (by2 f (p + 2))) (x := 4) (y := (nI (2 * (by2 f (p + 2))))) rfl rfl (by omega)]
        show pl _ _ _ (_, [(0, .ref m0), (1, .int (nI j)), (2, .int (nI u)), (3, .int (nI p)), (4, .int (nI a))], [.int (nI (4 + 2 * (by2 f (p + 2)))), .int (nI p)], M1) _
        refine ps_st (S' := (59, [(0, .ref m0), (1, .int (nI j)), (2, .int (nI u)), (3, .int (nI p)), (4, .int (nI a))], [.int ((nI p) + (nI (4 + 2 * (by2 f (p + 2)))))], M1)) rfl rfl rfl ?_
        rw [nI_add1 (p := p) (k := 4 + 2 * (by2 f (p + 2))) (x := (nI (4 + 2 * (by2 f (p + 2))))) rfl (by omega)]
        rw [show nI (p + (4 + 2 * (by2 f (p + 2)))) = nI (p + 4 + 2 * (by2 f (p + 2))) from congrArg nI (by omega)]
        show pl _ _ _ (_, [(0, .ref m0), (1, .int (nI j)), (2, .int (nI u)), (3, .int (nI p)), (4, .int (nI a))], [.int (nI (p + 4 + 2 * (by2 f (p + 2))))], M1) _
        refine ps_st (S' := (60, [(3, .int (nI (p + 4 + 2 * (by2 f (p + 2))))), (0, .ref m0), (1, .int (nI j)), (2, .int (nI u)), (4, .int (nI a))], [], M1)) rfl rfl rfl ?_
        refine ps_st (S' := (63, [(4, .int ((nI a) + 1)), (3, .int (nI (p + 4 + 2 * (by2 f (p + 2))))), (0, .ref m0), (1, .int (nI j)), (2, .int (nI u))], [], M1)) rfl rfl rfl ?_
        rw [nI_add1 (p := a) (k := 1) (x := 1) rfl (by omega)]
        show pl _ _ _ (_, [(4, .int (nI (a + 1))), (3, .int (nI (p + 4 + 2 * (by2 f (p + 2))))), (0, .ref m0), (1, .int (nI j)), (2, .int (nI u))], [], M1) _
        refine ps_st (S' := (40, [(0, .ref m0), (1, .int (nI j)), (2, .int (nI u)), (3, .int (nI (p + 4 + 2 * (by2 f (p + 2))))), (4, .int (nI (a + 1)))], [], M1)) rfl rfl rfl ?_
        exact ih (a + 1) (p + 4 + 2 * by2 f (p + 2)) M1 I1 R1 hR1 hEI1 hER1 hl0 hF1 (by omega) (hin9.2.2) (by
            rw [← hp, bsP_st (i := a) (by omega)])
  refine ps_st (S' := (1, [(0, .ref m0), (1, .int (nI j)), (2, .int (nI u))], [.ref m0], M)) rfl rfl rfl ?_
  refine ps_st (S' := (2, [(0, .ref m0), (1, .int (nI j)), (2, .int (nI u))], [.int 0, .ref m0], M)) rfl rfl rfl ?_
  refine pr_put (j := 0) rfl hR rfl (fun M13 I14 hR15 hi16 hI17 => ?_)
  have hi19 := (hI17 18 (by decide)).trans hi18
  have hi20 := (hI17 71 (by decide)).trans hi71
  have hi21 := (hI17 70 (by decide)).trans hi70
  have hF_22 := hF.mono (pIx hI17 (by decide)) (fun _ _ => rfl)
  have hEI23 := hEI.put hI17 (by decide)
  show pl _ _ _ (5, [(0, .ref m0), (1, .int (nI j)), (2, .int (nI u))], [], M13) _
  refine ps_st (S' := (6, [(0, .ref m0), (1, .int (nI j)), (2, .int (nI u))], [.ref m0], M13)) rfl rfl rfl ?_
  refine pr_int (j := 18) (S' := (9, [(0, .ref m0), (1, .int (nI j)), (2, .int (nI u))], [.int (nI n2)], M13)) rfl hR15 rfl hi19 rfl ?_
  refine ps_if (S1 := (28, [], [], M13)) (S2 := (12, [(0, .ref m0), (1, .int (nI j)), (2, .int (nI u))], [], M13)) rfl rfl rfl (fun c_9 => ?_) (fun c_9 => ?_)
  · exact absurd (of_decide_eq_true c_9) (show ¬ ((nI n2) < 0) from fun h9 => absurd ((lt_nI (p := n2) (n := 0) (by omega) (by decide)).mp h9) (by omega))
  refine ps_st (S' := (13, [(0, .ref m0), (1, .int (nI j)), (2, .int (nI u))], [.int (nI j)], M13)) rfl rfl rfl ?_
  refine ps_if (S1 := (28, [], [], M13)) (S2 := (16, [(0, .ref m0), (1, .int (nI j)), (2, .int (nI u))], [], M13)) rfl rfl rfl (fun c_13 => ?_) (fun c_13 => ?_)
  · exact absurd (of_decide_eq_true c_13) (show ¬ ((nI j) < 0) from fun h9 => absurd ((lt_nI (p := j) (n := 0) (by omega) (by decide)).mp h9) (by omega))
  refine ps_st (S' := (17, [(0, .ref m0), (1, .int (nI j)), (2, .int (nI u))], [.int (nI j)], M13)) rfl rfl rfl ?_
  refine ps_st (S' := (18, [(0, .ref m0), (1, .int (nI j)), (2, .int (nI u))], [.ref m0, .int (nI j)], M13)) rfl rfl rfl ?_
  refine pr_int (j := 71) (S' := (21, [(0, .ref m0), (1, .int (nI j)), (2, .int (nI u))], [.int (nI bc), .int (nI j)], M13)) rfl hR15 rfl hi20 rfl ?_
  refine ps_if2 (S1 := (28, [], [], M13)) (S2 := (24, [(0, .ref m0), (1, .int (nI j)), (2, .int (nI u))], [], M13)) rfl rfl rfl (fun c_21 => ?_) (fun c_21 => ?_)
  · exact absurd (of_decide_eq_true c_21) (Int32.not_le.mpr ((lt_nI (by omega) (by omega)).mpr hj))
  refine ps_st (S' := (25, [(0, .ref m0), (1, .int (nI j)), (2, .int (nI u))], [.int (nI u)], M13)) rfl rfl rfl ?_
  refine ps_if (S1 := (30, [(0, .ref m0), (1, .int (nI j)), (2, .int (nI u))], [], M13)) (S2 := (28, [], [], M13)) rfl rfl rfl (fun c_25 => ?_) (fun c_25 => ?_)
  rotate_left
  · exact absurd ((le_nI (p := 0) (n := u) (by decide) (by omega)).mpr (by omega)) (of_decide_eq_false c_25)
  refine ps_st (S' := (31, [(0, .ref m0), (1, .int (nI j)), (2, .int (nI u))], [.ref m0], M13)) rfl rfl rfl ?_
  refine pr_int (j := 70) (S' := (34, [(0, .ref m0), (1, .int (nI j)), (2, .int (nI u))], [.int (nI (bp - 2))], M13)) rfl hR15 rfl hi21 rfl ?_
  refine ps_st (S' := (35, [(0, .ref m0), (1, .int (nI j)), (2, .int (nI u))], [.int 2, .int (nI (bp - 2))], M13)) rfl rfl rfl ?_
  refine ps_st (S' := (36, [(0, .ref m0), (1, .int (nI j)), (2, .int (nI u))], [.int ((nI (bp - 2)) + 2)], M13)) rfl rfl rfl ?_
  rw [nI_add1 (p := bp - 2) (k := 2) (x := 2) rfl (by omega)]
  show pl _ _ _ (_, [(0, .ref m0), (1, .int (nI j)), (2, .int (nI u))], [.int (nI (bp - 2 + 2))], M13) _
  refine ps_st (S' := (37, [(3, .int (nI (bp - 2 + 2))), (0, .ref m0), (1, .int (nI j)), (2, .int (nI u))], [], M13)) rfl rfl rfl ?_
  rw [show bp - 2 + 2 = bp by omega]
  show pl _ _ _ (37, [(3, .int (nI bp)), (0, .ref m0), (1, .int (nI j)), (2, .int (nI u))], [], M13) _
  refine ps_st (S' := (38, [(3, .int (nI bp)), (0, .ref m0), (1, .int (nI j)), (2, .int (nI u))], [.int 0], M13)) rfl rfl rfl ?_
  refine ps_st (S' := (40, [(0, .ref m0), (1, .int (nI j)), (2, .int (nI u)), (3, .int (nI bp)), (4, .int 0)], [], M13)) rfl rfl rfl ?_
  exact (LL kf) (0) (bp) M13 I14 R hR15 hEI23 hER hi16 hF_22 (by omega) (hbs) (rfl)
theorem rd_bootstrap {g : xe_G} {m0 : Nat} {q : Nat → Nat} {z : Nat × Nat} {I : rI} {R : rR} {M : mi_H} {ko : Option (Nat × (Nat → Int32))} {i t : Int32} (hR : RS g m0 q z I R M) (hK : KPR ko I R) : pt (mT g) 184 [.ref m0, .int i, .int t] M (fun v M' => ∃ (I' : rI) (R' : rR), v = some (.int (bsK ko i t)) ∧ RS g m0 q z I' R' M' ∧ eqI [0] I I' ∧ eqR [] R R' ∧ I' 0 = some 0) := by
  cases ko with
  | none =>
    obtain ⟨kn, h1, h2⟩ := hK
    exact rd_bootstrap0 hR h1 h2
  | some r =>
    obtain ⟨h1, h2, -, -, tx, cN, A, E, N, mj, p1, pF, pM, pA, k1, k2, k3, k4, k5, k6, k7, rfl, rfl, m1, m2, m3, m4, m5, m6, m7, m8, -, bc, K, m9, m10, g1, g2, g3, g4, g5, g6, g7⟩ := hK
    rw [bsK_is k7 m9 m10]
    unfold bsI
    by_cases hi : i < 0 ∨ nI bc ≤ i
    · rw [if_pos hi]
      exact rd_bootstrapN hR h1 g1 h2 (Or.inl hi)
    · rw [if_neg hi]
      have hbc := clS_bc m9
      obtain ⟨ei, hj⟩ := i32_in (by omega) hi
      obtain ⟨j, ej⟩ : ∃ j, j = i.toNatClampNeg := ⟨_, rfl⟩
      rw [← ej] at ei hj ⊢
      rcases cl_bt m8 m9 m10 with h9 | ⟨hbp, e, he, hbs⟩
      · omega
      · have g8 : I 70 = some (nI (K.2.1 - 2)) := by
          rw [g6]
          unfold b7
          rw [if_neg (by omega)]
        by_cases ht : t < 0 ∨ nI (by2 r.2 (bsP r.2 j K.2.1 + 2)) < t
        · rw [if_pos ht]
          by_cases h0 : t < 0
          · exact rd_bootstrapN hR h1 g1 h2 (Or.inr h0)
          · rw [ei]
            exact rd_bootstrapB hR h1 g1 g8 k1 h2 hbp hbc hj he hbs h0 (ht.resolve_left h0)
        · rw [if_neg ht]
          have hu7 := by2_lt r.2 (bsP r.2 j K.2.1 + 2)
          have h0 : ¬ t < 0 := fun q => ht (Or.inl q)
          have et := i32_nn h0
          have hle : t.toNatClampNeg ≤ by2 r.2 (bsP r.2 j K.2.1 + 2) := by
            have h1 := Int32.le_iff_toInt_le.mp (Int32.not_lt.mp (fun q => ht (Or.inr q)))
            rw [nI_val (by omega)] at h1
            have h2 := i32_to h0
            omega
          obtain ⟨u, eu⟩ : ∃ u, u = t.toNatClampNeg := ⟨_, rfl⟩
          rw [← eu] at et hle ⊢
          rw [ei, et]
          exact rd_bootstrapG hR h1 g1 g8 k1 h2 hbp hbc hj he hbs hle
