/-! where attributes end (laid by wip/p2/c38.py) -/
set_option maxHeartbeats 1000000 in
theorem ct_attributesEnd {g : xe_G} {M : mi_H} {b da n : Nat} {f : Nat → Int32} {x1 x2 x3 : Int32} (hB : BY M b da n f) {d : Nat} (hd : 2 ≤ d) : mt (mT g) d 45 [.ref b, .int x1, .int x2, .int x3] M (fun v M' => (∃ x, v = some (.int x)) ∧ M' = M) := by
  obtain ⟨d, rfl⟩ : ∃ e, d = e + 1 := ⟨d - 1, by omega⟩
  have L6 : ∀ (n9 : Nat) (i4 i5 : Int32), (2147483648 - i5.toInt).toNat ≤ n9 → True → ml (mT g) d (mb_45 g).2 (6, [(0, .ref b), (2, .int x2), (3, .int x3), (4, .int i4), (5, .int i5)], [], M) (fun v M' => (∃ x, v = some (.int x)) ∧ M' = M) := by
    intro n9
    induction n9 with
    | zero => intro i4 i5 hn _; exact (loop_zero hn).elim
    | succ n9 ih =>
      intro i4 i5 hn h0
      refine ml_st (S' := (8, [(0, .ref b), (2, .int x2), (3, .int x3), (4, .int i4), (5, .int i5)], [.int i5], M)) rfl rfl rfl ?_
      refine ml_st (S' := (9, [(0, .ref b), (2, .int x2), (3, .int x3), (4, .int i4), (5, .int i5)], [.int x2, .int i5], M)) rfl rfl rfl ?_
      refine ml_if2 (S1 := (68, [(0, .ref b), (2, .int x2), (3, .int x3), (4, .int i4), (5, .int i5)], [], M)) (S2 := (12, [(0, .ref b), (2, .int x2), (3, .int x3), (4, .int i4), (5, .int i5)], [], M)) rfl rfl rfl (fun c_9 => ?_) (fun c_9 => ?_)
      · have c_9 : x2 ≤ i5 := of_decide_eq_true c_9
        refine ml_st (S' := (70, [(0, .ref b), (2, .int x2), (3, .int x3), (4, .int i4), (5, .int i5)], [.int i4], M)) rfl rfl rfl ?_
        exact ml_ret rfl (rfl) (⟨⟨_, rfl⟩, rfl⟩)
      · have c_9 : ¬ (x2 ≤ i5) := of_decide_eq_false c_9
        refine ml_st (S' := (13, [(0, .ref b), (2, .int x2), (3, .int x3), (4, .int i4), (5, .int i5)], [.int x3], M)) rfl rfl rfl ?_
        refine ml_st (S' := (15, [(0, .ref b), (2, .int x2), (3, .int x3), (4, .int i4), (5, .int i5)], [.int i4, .int x3], M)) rfl rfl rfl ?_
        refine ml_st (S' := (16, [(0, .ref b), (2, .int x2), (3, .int x3), (4, .int i4), (5, .int i5)], [.int (x3 - i4)], M)) rfl rfl rfl ?_
        refine ml_st (S' := (18, [(0, .ref b), (2, .int x2), (3, .int x3), (4, .int i4), (5, .int i5)], [.int 6, .int (x3 - i4)], M)) rfl rfl rfl ?_
        refine ml_if2 (S1 := (23, [(0, .ref b), (2, .int x2), (3, .int x3), (4, .int i4), (5, .int i5)], [], M)) (S2 := (21, [(0, .ref b), (2, .int x2), (3, .int x3), (4, .int i4), (5, .int i5)], [], M)) rfl rfl rfl (fun c_18 => ?_) (fun c_18 => ?_)
        · have c_18 : 6 ≤ (x3 - i4) := of_decide_eq_true c_18
          refine ml_st (S' := (24, [(0, .ref b), (2, .int x2), (3, .int x3), (4, .int i4), (5, .int i5)], [.ref b], M)) rfl rfl rfl ?_
          refine ml_st (S' := (26, [(0, .ref b), (2, .int x2), (3, .int x3), (4, .int i4), (5, .int i5)], [.int i4, .ref b], M)) rfl rfl rfl ?_
          refine ml_st (S' := (27, [(0, .ref b), (2, .int x2), (3, .int x3), (4, .int i4), (5, .int i5)], [.int 2, .int i4, .ref b], M)) rfl rfl rfl ?_
          refine ml_st (S' := (28, [(0, .ref b), (2, .int x2), (3, .int x3), (4, .int i4), (5, .int i5)], [.int (i4 + 2), .ref b], M)) rfl rfl rfl ?_
          refine ml_call (a := [.ref b, .int (i4 + 2)]) (rest := []) rfl (okc_v rfl rfl rfl hB.1) rfl rfl (ct_u4 hB (by omega)) (fun v1 M2 h3 => ?_)
          obtain ⟨rfl, h3⟩ := h3
          rw [h3]
          show ml _ _ _ (31, [(0, .ref b), (2, .int x2), (3, .int x3), (4, .int i4), (5, .int i5)], [.int (sp_u4 n f (i4 + 2))], M) _
          refine ml_st (S' := (33, [(6, .int (sp_u4 n f (i4 + 2))), (0, .ref b), (2, .int x2), (3, .int x3), (4, .int i4), (5, .int i5)], [], M)) rfl rfl rfl ?_
          refine ml_st (S' := (35, [(6, .int (sp_u4 n f (i4 + 2))), (0, .ref b), (2, .int x2), (3, .int x3), (4, .int i4), (5, .int i5)], [.int (sp_u4 n f (i4 + 2))], M)) rfl rfl rfl ?_
          refine ml_if (S1 := (50, [], [], M)) (S2 := (38, [(6, .int (sp_u4 n f (i4 + 2))), (0, .ref b), (2, .int x2), (3, .int x3), (4, .int i4), (5, .int i5)], [], M)) rfl rfl rfl (fun c_35 => ?_) (fun c_35 => ?_)
          · have c_35 : (sp_u4 n f (i4 + 2)) < 0 := of_decide_eq_true c_35
            refine ml_st (S' := (51, [], [.int (-1)], M)) rfl rfl rfl ?_
            exact ml_ret rfl (rfl) (⟨⟨_, rfl⟩, rfl⟩)
          · have c_35 : ¬ ((sp_u4 n f (i4 + 2)) < 0) := of_decide_eq_false c_35
            refine ml_st (S' := (40, [(6, .int (sp_u4 n f (i4 + 2))), (0, .ref b), (2, .int x2), (3, .int x3), (4, .int i4), (5, .int i5)], [.int (sp_u4 n f (i4 + 2))], M)) rfl rfl rfl ?_
            refine ml_st (S' := (41, [(6, .int (sp_u4 n f (i4 + 2))), (0, .ref b), (2, .int x2), (3, .int x3), (4, .int i4), (5, .int i5)], [.int x3, .int (sp_u4 n f (i4 + 2))], M)) rfl rfl rfl ?_
            refine ml_st (S' := (43, [(6, .int (sp_u4 n f (i4 + 2))), (0, .ref b), (2, .int x2), (3, .int x3), (4, .int i4), (5, .int i5)], [.int i4, .int x3, .int (sp_u4 n f (i4 + 2))], M)) rfl rfl rfl ?_
            refine ml_st (S' := (44, [(6, .int (sp_u4 n f (i4 + 2))), (0, .ref b), (2, .int x2), (3, .int x3), (4, .int i4), (5, .int i5)], [.int (x3 - i4), .int (sp_u4 n f (i4 + 2))], M)) rfl rfl rfl ?_
            refine ml_st (S' := (46, [(6, .int (sp_u4 n f (i4 + 2))), (0, .ref b), (2, .int x2), (3, .int x3), (4, .int i4), (5, .int i5)], [.int 6, .int (x3 - i4), .int (sp_u4 n f (i4 + 2))], M)) rfl rfl rfl ?_
            refine ml_st (S' := (47, [(6, .int (sp_u4 n f (i4 + 2))), (0, .ref b), (2, .int x2), (3, .int x3), (4, .int i4), (5, .int i5)], [.int ((x3 - i4) - 6), .int (sp_u4 n f (i4 + 2))], M)) rfl rfl rfl ?_
            refine ml_if2 (S1 := (52, [(6, .int (sp_u4 n f (i4 + 2))), (0, .ref b), (2, .int x2), (3, .int x3), (4, .int i4), (5, .int i5)], [], M)) (S2 := (50, [], [], M)) rfl rfl rfl (fun c_47 => ?_) (fun c_47 => ?_)
            · have c_47 : (sp_u4 n f (i4 + 2)) ≤ ((x3 - i4) - 6) := of_decide_eq_true c_47
              refine ml_st (S' := (54, [(6, .int (sp_u4 n f (i4 + 2))), (0, .ref b), (2, .int x2), (3, .int x3), (4, .int i4), (5, .int i5)], [.int i4], M)) rfl rfl rfl ?_
              refine ml_st (S' := (56, [(6, .int (sp_u4 n f (i4 + 2))), (0, .ref b), (2, .int x2), (3, .int x3), (4, .int i4), (5, .int i5)], [.int 6, .int i4], M)) rfl rfl rfl ?_
              refine ml_st (S' := (58, [(6, .int (sp_u4 n f (i4 + 2))), (0, .ref b), (2, .int x2), (3, .int x3), (4, .int i4), (5, .int i5)], [.int (sp_u4 n f (i4 + 2)), .int 6, .int i4], M)) rfl rfl rfl ?_
              refine ml_st (S' := (59, [(6, .int (sp_u4 n f (i4 + 2))), (0, .ref b), (2, .int x2), (3, .int x3), (4, .int i4), (5, .int i5)], [.int (6 + (sp_u4 n f (i4 + 2))), .int i4], M)) rfl rfl rfl ?_
              refine ml_st (S' := (60, [(6, .int (sp_u4 n f (i4 + 2))), (0, .ref b), (2, .int x2), (3, .int x3), (4, .int i4), (5, .int i5)], [.int (i4 + (6 + (sp_u4 n f (i4 + 2))))], M)) rfl rfl rfl ?_
              refine ml_st (S' := (62, [(4, .int (i4 + (6 + (sp_u4 n f (i4 + 2))))), (6, .int (sp_u4 n f (i4 + 2))), (0, .ref b), (2, .int x2), (3, .int x3), (5, .int i5)], [], M)) rfl rfl rfl ?_
              refine ml_st (S' := (65, [(5, .int (i5 + 1)), (4, .int (i4 + (6 + (sp_u4 n f (i4 + 2))))), (6, .int (sp_u4 n f (i4 + 2))), (0, .ref b), (2, .int x2), (3, .int x3)], [], M)) rfl rfl rfl ?_
              refine ml_st (S' := (6, [(0, .ref b), (2, .int x2), (3, .int x3), (4, .int (i4 + (6 + (sp_u4 n f (i4 + 2))))), (5, .int (i5 + 1))], [], M)) rfl rfl rfl ?_
              exact ih _ _ (loop_inc (Int32.not_le.mp c_9) hn) trivial
            · have c_47 : ¬ ((sp_u4 n f (i4 + 2)) ≤ ((x3 - i4) - 6)) := of_decide_eq_false c_47
              refine ml_st (S' := (51, [], [.int (-1)], M)) rfl rfl rfl ?_
              exact ml_ret rfl (rfl) (⟨⟨_, rfl⟩, rfl⟩)
        · have c_18 : ¬ (6 ≤ (x3 - i4)) := of_decide_eq_false c_18
          refine ml_st (S' := (22, [(0, .ref b), (2, .int x2), (3, .int x3), (4, .int i4), (5, .int i5)], [.int (-1)], M)) rfl rfl rfl ?_
          exact ml_ret rfl (rfl) (⟨⟨_, rfl⟩, rfl⟩)
  refine mt_in (b := mb_45 g) rfl rfl ?_
  show ml (mT g) d (mb_45 g).2 (0, [(0, .ref b), (1, .int x1), (2, .int x2), (3, .int x3)], [], M) _
  refine ml_st (S' := (1, [(0, .ref b), (1, .int x1), (2, .int x2), (3, .int x3)], [.int x1], M)) rfl rfl rfl ?_
  refine ml_st (S' := (3, [(4, .int x1), (0, .ref b), (1, .int x1), (2, .int x2), (3, .int x3)], [], M)) rfl rfl rfl ?_
  refine ml_st (S' := (4, [(4, .int x1), (0, .ref b), (1, .int x1), (2, .int x2), (3, .int x3)], [.int 0], M)) rfl rfl rfl ?_
  refine ml_st (S' := (6, [(0, .ref b), (2, .int x2), (3, .int x3), (4, .int x1), (5, .int 0)], [], M)) rfl rfl rfl ?_
  exact L6 _ _ _ (Nat.le_refl _) trivial
