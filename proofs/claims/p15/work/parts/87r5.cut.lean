set_option maxHeartbeats 2000000 in
theorem rd_u1U {g : xe_G} {m0 : Nat} {q : Nat → Nat} {z : Nat × Nat} {I : rI} {R : rR} {M : mi_H} {x1 a49 : Int32} (hR : RS g m0 q z I R M) (hi49 : I 49 = some a49)   : pt (mT g) 248 [.ref m0, .int x1] M (fun v M' => (∃ (x : Int32), v = some (.int x) ∧ M = M')) := by
  refine pt_in (b := mb_248 g) rfl (fun kf => ?_)
  show pl (mT g) kf (mb_248 g).2 (0, [(0, .ref m0), (1, .int x1)], [], M) _
  refine ps_st (S' := (1, [(0, .ref m0), (1, .int x1)], [.ref m0], M)) rfl rfl rfl ?_
  refine pr_ref (j := 12) (S' := (4, [(0, .ref m0), (1, .int x1)], [.ref (q 12)], M)) rfl hR rfl rfl ?_
  refine ps_st (S' := (5, [(0, .ref m0), (1, .int x1)], [.ref m0, .ref (q 12)], M)) rfl rfl rfl ?_
  refine pr_int (j := 49) (S' := (8, [(0, .ref m0), (1, .int x1)], [.int a49, .ref (q 12)], M)) rfl hR rfl hi49 rfl ?_
  refine ps_st (S' := (9, [(0, .ref m0), (1, .int x1)], [.int x1, .int a49, .ref (q 12)], M)) rfl rfl rfl ?_
  refine ps_st (S' := (10, [(0, .ref m0), (1, .int x1)], [.int (a49 + x1), .ref (q 12)], M)) rfl rfl rfl ?_
  refine pr_ldu (a := 12) rfl hR rfl (fun y_10 i0_10 i1_10 hy_10 => ?_)
  show pl _ _ _ (11, [(0, .ref m0), (1, .int x1)], [.int y_10], M) _
  refine ps_st (S' := (14, [(0, .ref m0), (1, .int x1)], [.int 255, .int y_10], M)) rfl rfl rfl ?_
  refine ps_st (S' := (15, [(0, .ref m0), (1, .int x1)], [.int (y_10 &&& 255)], M)) rfl rfl rfl ?_
  exact ps_reti rfl (⟨_, rfl, rfl⟩)
set_option maxHeartbeats 2000000 in
theorem rd_u2U {g : xe_G} {m0 : Nat} {q : Nat → Nat} {z : Nat × Nat} {I : rI} {R : rR} {M : mi_H} {x1 a49 : Int32} (hR : RS g m0 q z I R M) (hi49 : I 49 = some a49)   : pt (mT g) 249 [.ref m0, .int x1] M (fun v M' => (∃ (x : Int32), v = some (.int x) ∧ M = M')) := by
  refine pt_in (b := mb_249 g) rfl (fun kf => ?_)
  show pl (mT g) kf (mb_249 g).2 (0, [(0, .ref m0), (1, .int x1)], [], M) _
  refine ps_st (S' := (1, [(0, .ref m0), (1, .int x1)], [.ref m0], M)) rfl rfl rfl ?_
  refine ps_st (S' := (2, [(0, .ref m0), (1, .int x1)], [.int x1, .ref m0], M)) rfl rfl rfl ?_
  refine pl_call (a := [.ref m0, .int x1]) (rest := []) rfl rfl rfl (rd_u1U (x1 := x1) (a49 := a49) hR hi49) (fun v1 M2 q3 => ?_)
  obtain ⟨x4, rfl, rfl⟩ := q3
  show pl _ _ _ (5, [(0, .ref m0), (1, .int x1)], [.int x4], M) _
  refine ps_st (S' := (7, [(0, .ref m0), (1, .int x1)], [.int 8, .int x4], M)) rfl rfl rfl ?_
  refine ps_st (S' := (8, [(0, .ref m0), (1, .int x1)], [.int (x4 <<< (8 &&& 31))], M)) rfl rfl rfl ?_
  refine ps_st (S' := (9, [(0, .ref m0), (1, .int x1)], [.ref m0, .int (x4 <<< (8 &&& 31))], M)) rfl rfl rfl ?_
  refine ps_st (S' := (10, [(0, .ref m0), (1, .int x1)], [.int x1, .ref m0, .int (x4 <<< (8 &&& 31))], M)) rfl rfl rfl ?_
  refine ps_st (S' := (11, [(0, .ref m0), (1, .int x1)], [.int 1, .int x1, .ref m0, .int (x4 <<< (8 &&& 31))], M)) rfl rfl rfl ?_
  refine ps_st (S' := (12, [(0, .ref m0), (1, .int x1)], [.int (x1 + 1), .ref m0, .int (x4 <<< (8 &&& 31))], M)) rfl rfl rfl ?_
  refine pl_call (a := [.ref m0, .int (x1 + 1)]) (rest := [.int (x4 <<< (8 &&& 31))]) rfl rfl rfl (rd_u1U (x1 := (x1 + 1)) (a49 := a49) hR hi49) (fun v5 M6 q7 => ?_)
  obtain ⟨x8, rfl, rfl⟩ := q7
  show pl _ _ _ (15, [(0, .ref m0), (1, .int x1)], [.int x8, .int (x4 <<< (8 &&& 31))], M) _
  refine ps_st (S' := (16, [(0, .ref m0), (1, .int x1)], [.int ((x4 <<< (8 &&& 31)) ||| x8)], M)) rfl rfl rfl ?_
  exact ps_reti rfl (⟨_, rfl, rfl⟩)
set_option maxHeartbeats 2000000 in
theorem rd_u4U {g : xe_G} {m0 : Nat} {q : Nat → Nat} {z : Nat × Nat} {I : rI} {R : rR} {M : mi_H} {x1 a49 : Int32} (hR : RS g m0 q z I R M) (hi49 : I 49 = some a49)   : pt (mT g) 250 [.ref m0, .int x1] M (fun v M' => (∃ (x : Int64), v = some (.long x) ∧ M = M')) := by
  refine pt_in (b := mb_250 g) rfl (fun kf => ?_)
  show pl (mT g) kf (mb_250 g).2 (0, [(0, .ref m0), (1, .int x1)], [], M) _
  refine ps_st (S' := (1, [(0, .ref m0), (1, .int x1)], [.ref m0], M)) rfl rfl rfl ?_
  refine ps_st (S' := (2, [(0, .ref m0), (1, .int x1)], [.int x1, .ref m0], M)) rfl rfl rfl ?_
  refine pl_call (a := [.ref m0, .int x1]) (rest := []) rfl rfl rfl (rd_u2U (x1 := x1) (a49 := a49) hR hi49) (fun v1 M2 q3 => ?_)
  obtain ⟨x4, rfl, rfl⟩ := q3
  show pl _ _ _ (5, [(0, .ref m0), (1, .int x1)], [.int x4], M) _
  refine ps_st (S' := (6, [(0, .ref m0), (1, .int x1)], [.long (Int32.toInt64 x4)], M)) rfl rfl rfl ?_
  refine ps_st (S' := (8, [(0, .ref m0), (1, .int x1)], [.int 16, .long (Int32.toInt64 x4)], M)) rfl rfl rfl ?_
  refine ps_st (S' := (9, [(0, .ref m0), (1, .int x1)], [.long ((Int32.toInt64 x4) <<< (Int32.toInt64 16 &&& 63))], M)) rfl rfl rfl ?_
  refine ps_st (S' := (10, [(0, .ref m0), (1, .int x1)], [.ref m0, .long ((Int32.toInt64 x4) <<< (Int32.toInt64 16 &&& 63))], M)) rfl rfl rfl ?_
  refine ps_st (S' := (11, [(0, .ref m0), (1, .int x1)], [.int x1, .ref m0, .long ((Int32.toInt64 x4) <<< (Int32.toInt64 16 &&& 63))], M)) rfl rfl rfl ?_
  refine ps_st (S' := (12, [(0, .ref m0), (1, .int x1)], [.int 2, .int x1, .ref m0, .long ((Int32.toInt64 x4) <<< (Int32.toInt64 16 &&& 63))], M)) rfl rfl rfl ?_
  refine ps_st (S' := (13, [(0, .ref m0), (1, .int x1)], [.int (x1 + 2), .ref m0, .long ((Int32.toInt64 x4) <<< (Int32.toInt64 16 &&& 63))], M)) rfl rfl rfl ?_
  refine pl_call (a := [.ref m0, .int (x1 + 2)]) (rest := [.long ((Int32.toInt64 x4) <<< (Int32.toInt64 16 &&& 63))]) rfl rfl rfl (rd_u2U (x1 := (x1 + 2)) (a49 := a49) hR hi49) (fun v5 M6 q7 => ?_)
  obtain ⟨x8, rfl, rfl⟩ := q7
  show pl _ _ _ (16, [(0, .ref m0), (1, .int x1)], [.int x8, .long ((Int32.toInt64 x4) <<< (Int32.toInt64 16 &&& 63))], M) _
  refine ps_st (S' := (17, [(0, .ref m0), (1, .int x1)], [.long (Int32.toInt64 x8), .long ((Int32.toInt64 x4) <<< (Int32.toInt64 16 &&& 63))], M)) rfl rfl rfl ?_
  refine ps_st (S' := (18, [(0, .ref m0), (1, .int x1)], [.long (((Int32.toInt64 x4) <<< (Int32.toInt64 16 &&& 63)) ||| (Int32.toInt64 x8))], M)) rfl rfl rfl ?_
  exact ps_ret rfl rfl (⟨_, rfl, rfl⟩)
set_option maxHeartbeats 2000000 in
theorem rd_b1U {g : xe_G} {m0 : Nat} {q : Nat → Nat} {z : Nat × Nat} {I : rI} {R : rR} {M : mi_H} {x1 a77 : Int32} (hR : RS g m0 q z I R M) (hi77 : I 77 = some a77)   : pt (mT g) 179 [.ref m0, .int x1] M (fun v M' => (∃ (x : Int32), v = some (.int x) ∧ M = M')) := by
  refine pt_in (b := mb_179 g) rfl (fun kf => ?_)
  show pl (mT g) kf (mb_179 g).2 (0, [(0, .ref m0), (1, .int x1)], [], M) _
  refine ps_st (S' := (1, [(0, .ref m0), (1, .int x1)], [.ref m0], M)) rfl rfl rfl ?_
  refine pr_ref (j := 12) (S' := (4, [(0, .ref m0), (1, .int x1)], [.ref (q 12)], M)) rfl hR rfl rfl ?_
  refine ps_st (S' := (5, [(0, .ref m0), (1, .int x1)], [.ref m0, .ref (q 12)], M)) rfl rfl rfl ?_
  refine pr_int (j := 77) (S' := (8, [(0, .ref m0), (1, .int x1)], [.int a77, .ref (q 12)], M)) rfl hR rfl hi77 rfl ?_
  refine ps_st (S' := (9, [(0, .ref m0), (1, .int x1)], [.int x1, .int a77, .ref (q 12)], M)) rfl rfl rfl ?_
  refine ps_st (S' := (10, [(0, .ref m0), (1, .int x1)], [.int (a77 + x1), .ref (q 12)], M)) rfl rfl rfl ?_
  refine pr_ldu (a := 12) rfl hR rfl (fun y_10 i0_10 i1_10 hy_10 => ?_)
  show pl _ _ _ (11, [(0, .ref m0), (1, .int x1)], [.int y_10], M) _
  refine ps_st (S' := (14, [(0, .ref m0), (1, .int x1)], [.int 255, .int y_10], M)) rfl rfl rfl ?_
  refine ps_st (S' := (15, [(0, .ref m0), (1, .int x1)], [.int (y_10 &&& 255)], M)) rfl rfl rfl ?_
  exact ps_reti rfl (⟨_, rfl, rfl⟩)
set_option maxHeartbeats 2000000 in
theorem rd_b2U {g : xe_G} {m0 : Nat} {q : Nat → Nat} {z : Nat × Nat} {I : rI} {R : rR} {M : mi_H} {x1 a49 a77 : Int32} (hR : RS g m0 q z I R M) (hi49 : I 49 = some a49) (hi77 : I 77 = some a77)   : pt (mT g) 180 [.ref m0, .int x1] M (fun v M' => (∃ (x : Int32), v = some (.int x) ∧ M = M')) := by
  refine pt_in (b := mb_180 g) rfl (fun kf => ?_)
  show pl (mT g) kf (mb_180 g).2 (0, [(0, .ref m0), (1, .int x1)], [], M) _
  refine ps_st (S' := (1, [(0, .ref m0), (1, .int x1)], [.ref m0], M)) rfl rfl rfl ?_
  refine ps_st (S' := (2, [(0, .ref m0), (1, .int x1)], [.ref m0, .ref m0], M)) rfl rfl rfl ?_
  refine pr_int (j := 77) (S' := (5, [(0, .ref m0), (1, .int x1)], [.int a77, .ref m0], M)) rfl hR rfl hi77 rfl ?_
  refine ps_st (S' := (6, [(0, .ref m0), (1, .int x1)], [.int x1, .int a77, .ref m0], M)) rfl rfl rfl ?_
  refine ps_st (S' := (7, [(0, .ref m0), (1, .int x1)], [.int (a77 + x1), .ref m0], M)) rfl rfl rfl ?_
  refine pl_call (a := [.ref m0, .int (a77 + x1)]) (rest := []) rfl rfl rfl (rd_u2U (x1 := (a77 + x1)) (a49 := a49) hR hi49) (fun v1 M2 q3 => ?_)
  obtain ⟨x4, rfl, rfl⟩ := q3
  show pl _ _ _ (10, [(0, .ref m0), (1, .int x1)], [.int x4], M) _
  exact ps_reti rfl (⟨_, rfl, rfl⟩)
set_option maxHeartbeats 2000000 in
theorem rd_b4U {g : xe_G} {m0 : Nat} {q : Nat → Nat} {z : Nat × Nat} {I : rI} {R : rR} {M : mi_H} {x1 a49 a77 : Int32} (hR : RS g m0 q z I R M) (hi49 : I 49 = some a49) (hi77 : I 77 = some a77)   : pt (mT g) 181 [.ref m0, .int x1] M (fun v M' => (∃ (x : Int32), v = some (.int x) ∧ M = M')) := by
  refine pt_in (b := mb_181 g) rfl (fun kf => ?_)
  show pl (mT g) kf (mb_181 g).2 (0, [(0, .ref m0), (1, .int x1)], [], M) _
  refine ps_st (S' := (1, [(0, .ref m0), (1, .int x1)], [.ref m0], M)) rfl rfl rfl ?_
  refine ps_st (S' := (2, [(0, .ref m0), (1, .int x1)], [.ref m0, .ref m0], M)) rfl rfl rfl ?_
  refine pr_int (j := 77) (S' := (5, [(0, .ref m0), (1, .int x1)], [.int a77, .ref m0], M)) rfl hR rfl hi77 rfl ?_
  refine ps_st (S' := (6, [(0, .ref m0), (1, .int x1)], [.int x1, .int a77, .ref m0], M)) rfl rfl rfl ?_
  refine ps_st (S' := (7, [(0, .ref m0), (1, .int x1)], [.int (a77 + x1), .ref m0], M)) rfl rfl rfl ?_
  refine pl_call (a := [.ref m0, .int (a77 + x1)]) (rest := []) rfl rfl rfl (rd_u4U (x1 := (a77 + x1)) (a49 := a49) hR hi49) (fun v1 M2 q3 => ?_)
  obtain ⟨x4, rfl, rfl⟩ := q3
  show pl _ _ _ (10, [(0, .ref m0), (1, .int x1)], [.long x4], M) _
  refine ps_st (S' := (11, [(0, .ref m0), (1, .int x1)], [.int (Int64.toInt32 x4)], M)) rfl rfl rfl ?_
  exact ps_reti rfl (⟨_, rfl, rfl⟩)
set_option maxHeartbeats 2000000 in
theorem rd_s2U {g : xe_G} {m0 : Nat} {q : Nat → Nat} {z : Nat × Nat} {I : rI} {R : rR} {M : mi_H} {x1 a49 a77 : Int32} (hR : RS g m0 q z I R M) (hi49 : I 49 = some a49) (hi77 : I 77 = some a77)   : pt (mT g) 240 [.ref m0, .int x1] M (fun v M' => (∃ (x : Int32), v = some (.int x) ∧ M = M')) := by
  refine pt_in (b := mb_240 g) rfl (fun kf => ?_)
  show pl (mT g) kf (mb_240 g).2 (0, [(0, .ref m0), (1, .int x1)], [], M) _
  refine ps_st (S' := (1, [(0, .ref m0), (1, .int x1)], [.ref m0], M)) rfl rfl rfl ?_
  refine ps_st (S' := (2, [(0, .ref m0), (1, .int x1)], [.int x1, .ref m0], M)) rfl rfl rfl ?_
  refine pl_call (a := [.ref m0, .int x1]) (rest := []) rfl rfl rfl (rd_b2U (x1 := x1) (a49 := a49) (a77 := a77) hR hi49 hi77) (fun v1 M2 q3 => ?_)
  obtain ⟨x4, rfl, rfl⟩ := q3
  show pl _ _ _ (5, [(0, .ref m0), (1, .int x1)], [.int x4], M) _
  refine ps_st (S' := (6, [(0, .ref m0), (1, .int x1)], [.int (x4.toInt16.toInt32)], M)) rfl rfl rfl ?_
  exact ps_reti rfl (⟨_, rfl, rfl⟩)
set_option maxHeartbeats 2000000 in
theorem rd_padU {g : xe_G} {m0 : Nat} {q : Nat → Nat} {z : Nat × Nat} {I : rI} {R : rR} {M : mi_H} {x1 : Int32} (hR : RS g m0 q z I R M)    : pt (mT g) 229 [.int x1] M (fun v M' => (∃ (x : Int32), v = some (.int x) ∧ M = M')) := by
  refine pt_in (b := mb_229 g) rfl (fun kf => ?_)
  show pl (mT g) kf (mb_229 g).2 (0, [(0, .int x1)], [], M) _
  refine ps_st (S' := (1, [(0, .int x1)], [.int x1], M)) rfl rfl rfl ?_
  refine ps_st (S' := (2, [(0, .int x1)], [.int 4, .int x1], M)) rfl rfl rfl ?_
  refine ps_st (S' := (3, [(0, .int x1)], [.int (x1 + 4)], M)) rfl rfl rfl ?_
  refine ps_st (S' := (5, [(0, .int x1)], [.int (-4), .int (x1 + 4)], M)) rfl rfl rfl ?_
  refine ps_st (S' := (6, [(0, .int x1)], [.int ((x1 + 4) &&& (-4))], M)) rfl rfl rfl ?_
  exact ps_reti rfl (⟨_, rfl, rfl⟩)
set_option maxHeartbeats 2000000 in
theorem rd_plainU {g : xe_G} {m0 : Nat} {q : Nat → Nat} {z : Nat × Nat} {I : rI} {R : rR} {M : mi_H} {x1 x2 a77 : Int32} (hR : RS g m0 q z I R M) (hi77 : I 77 = some a77)   : pt (mT g) 234 [.ref m0, .int x1, .int x2] M (fun v M' => (∃ (x : Int32), v = some (.int x) ∧ M = M')) := by
  refine pt_in (b := mb_234 g) rfl (fun kf => ?_)
  show pl (mT g) kf (mb_234 g).2 (0, [(0, .ref m0), (1, .int x1), (2, .int x2)], [], M) _
  refine ps_st (S' := (1, [(0, .ref m0), (1, .int x1), (2, .int x2)], [.int x2], M)) rfl rfl rfl ?_
  refine ps_st (S' := (4, [(0, .ref m0), (1, .int x1), (2, .int x2)], [.int 196, .int x2], M)) rfl rfl rfl ?_
  refine ps_if2 (S1 := (15, [(0, .ref m0), (1, .int x1), (2, .int x2)], [], M)) (S2 := (7, [(0, .ref m0), (1, .int x1), (2, .int x2)], [], M)) rfl rfl rfl (fun c_4 => ?_) (fun c_4 => ?_)
  · have c_4 : ¬ x2 = 196 := of_decide_eq_true c_4
    refine ps_st (S' := (16, [(0, .ref m0), (1, .int x1), (2, .int x2)], [.int x2], M)) rfl rfl rfl ?_
    refine ps_st (S' := (18, [(0, .ref m0), (1, .int x1), (2, .int x2)], [.int 19, .int x2], M)) rfl rfl rfl ?_
    refine ps_if2 (S1 := (24, [(0, .ref m0), (1, .int x1), (2, .int x2)], [], M)) (S2 := (21, [(0, .ref m0), (1, .int x1), (2, .int x2)], [], M)) rfl rfl rfl (fun c_18 => ?_) (fun c_18 => ?_)
    · have c_18 : ¬ x2 = 19 := of_decide_eq_true c_18
      refine ps_st (S' := (25, [(0, .ref m0), (1, .int x1), (2, .int x2)], [.int x2], M)) rfl rfl rfl ?_
      refine ps_st (S' := (27, [(0, .ref m0), (1, .int x1), (2, .int x2)], [.int 26, .int x2], M)) rfl rfl rfl ?_
      refine ps_if2 (S1 := (46, [(2, .int x2)], [], M)) (S2 := (30, [(0, .ref m0), (1, .int x1), (2, .int x2)], [], M)) rfl rfl rfl (fun c_27 => ?_) (fun c_27 => ?_)
      · have c_27 : x2 < 26 := of_decide_eq_true c_27
        refine ps_st (S' := (47, [(2, .int x2)], [.int x2], M)) rfl rfl rfl ?_
        refine ps_st (S' := (49, [(2, .int x2)], [.int 59, .int x2], M)) rfl rfl rfl ?_
        refine ps_if2 (S1 := (68, [(2, .int x2)], [], M)) (S2 := (52, [(2, .int x2)], [], M)) rfl rfl rfl (fun c_49 => ?_) (fun c_49 => ?_)
        · have c_49 : x2 < 59 := of_decide_eq_true c_49
          refine ps_st (S' := (69, [(2, .int x2)], [.int x2], M)) rfl rfl rfl ?_
          refine ps_st (S' := (72, [(2, .int x2)], [.int 200, .int x2], M)) rfl rfl rfl ?_
          refine ps_if2 (S1 := (81, [(2, .int x2)], [], M)) (S2 := (75, [(2, .int x2)], [], M)) rfl rfl rfl (fun c_72 => ?_) (fun c_72 => ?_)
          · have c_72 : ¬ x2 = 200 := of_decide_eq_true c_72
            refine ps_st (S' := (82, [(2, .int x2)], [.int x2], M)) rfl rfl rfl ?_
            refine ps_st (S' := (85, [(2, .int x2)], [.int 201, .int x2], M)) rfl rfl rfl ?_
            refine ps_if2 (S1 := (94, [(2, .int x2)], [], M)) (S2 := (88, [(2, .int x2)], [], M)) rfl rfl rfl (fun c_85 => ?_) (fun c_85 => ?_)
            · have c_85 : ¬ x2 = 201 := of_decide_eq_true c_85
              refine ps_st (S' := (95, [], [.int x2], M)) rfl rfl rfl ?_
              exact ps_reti rfl (⟨_, rfl, rfl⟩)
            · have c_85 : ¬ (¬ x2 = 201) := of_decide_eq_false c_85
              refine ps_st (S' := (91, [(2, .int x2)], [.int 168], M)) rfl rfl rfl ?_
              refine ps_st (S' := (95, [], [.int 168], M)) rfl rfl rfl ?_
              exact ps_ret rfl rfl (⟨_, rfl, rfl⟩)
          · have c_72 : ¬ (¬ x2 = 200) := of_decide_eq_false c_72
            refine ps_st (S' := (78, [(2, .int x2)], [.int 167], M)) rfl rfl rfl ?_
            refine ps_st (S' := (95, [], [.int 167], M)) rfl rfl rfl ?_
            exact ps_ret rfl rfl (⟨_, rfl, rfl⟩)
        · have c_49 : ¬ (x2 < 59) := of_decide_eq_false c_49
          refine ps_st (S' := (53, [(2, .int x2)], [.int x2], M)) rfl rfl rfl ?_
          refine ps_st (S' := (55, [(2, .int x2)], [.int 78, .int x2], M)) rfl rfl rfl ?_
          refine ps_if2 (S1 := (68, [(2, .int x2)], [], M)) (S2 := (58, [(2, .int x2)], [], M)) rfl rfl rfl (fun c_55 => ?_) (fun c_55 => ?_)
          · have c_55 : 78 < x2 := of_decide_eq_true c_55
            refine ps_st (S' := (69, [(2, .int x2)], [.int x2], M)) rfl rfl rfl ?_
            refine ps_st (S' := (72, [(2, .int x2)], [.int 200, .int x2], M)) rfl rfl rfl ?_
            refine ps_if2 (S1 := (81, [(2, .int x2)], [], M)) (S2 := (75, [(2, .int x2)], [], M)) rfl rfl rfl (fun c_72 => ?_) (fun c_72 => ?_)
            · have c_72 : ¬ x2 = 200 := of_decide_eq_true c_72
              refine ps_st (S' := (82, [(2, .int x2)], [.int x2], M)) rfl rfl rfl ?_
              refine ps_st (S' := (85, [(2, .int x2)], [.int 201, .int x2], M)) rfl rfl rfl ?_
              refine ps_if2 (S1 := (94, [(2, .int x2)], [], M)) (S2 := (88, [(2, .int x2)], [], M)) rfl rfl rfl (fun c_85 => ?_) (fun c_85 => ?_)
              · have c_85 : ¬ x2 = 201 := of_decide_eq_true c_85
                refine ps_st (S' := (95, [], [.int x2], M)) rfl rfl rfl ?_
                exact ps_reti rfl (⟨_, rfl, rfl⟩)
              · have c_85 : ¬ (¬ x2 = 201) := of_decide_eq_false c_85
                refine ps_st (S' := (91, [(2, .int x2)], [.int 168], M)) rfl rfl rfl ?_
                refine ps_st (S' := (95, [], [.int 168], M)) rfl rfl rfl ?_
                exact ps_ret rfl rfl (⟨_, rfl, rfl⟩)
            · have c_72 : ¬ (¬ x2 = 200) := of_decide_eq_false c_72
              refine ps_st (S' := (78, [(2, .int x2)], [.int 167], M)) rfl rfl rfl ?_
              refine ps_st (S' := (95, [], [.int 167], M)) rfl rfl rfl ?_
              exact ps_ret rfl rfl (⟨_, rfl, rfl⟩)
          · have c_55 : ¬ (78 < x2) := of_decide_eq_false c_55
            refine ps_st (S' := (60, [(2, .int x2)], [.int 54], M)) rfl rfl rfl ?_
            refine ps_st (S' := (61, [(2, .int x2)], [.int x2, .int 54], M)) rfl rfl rfl ?_
            refine ps_st (S' := (63, [(2, .int x2)], [.int 59, .int x2, .int 54], M)) rfl rfl rfl ?_
            refine ps_st (S' := (64, [(2, .int x2)], [.int (x2 - 59), .int 54], M)) rfl rfl rfl ?_
            refine ps_st (S' := (65, [(2, .int x2)], [.int 4, .int (x2 - 59), .int 54], M)) rfl rfl rfl ?_
            refine ps_st (S' := (66, [(2, .int x2)], [.int ((x2 - 59) / 4), .int 54], M)) rfl rfl rfl ?_
            refine ps_st (S' := (67, [(2, .int x2)], [.int (54 + ((x2 - 59) / 4))], M)) rfl rfl rfl ?_
            exact ps_reti rfl (⟨_, rfl, rfl⟩)
      · have c_27 : ¬ (x2 < 26) := of_decide_eq_false c_27
        refine ps_st (S' := (31, [(0, .ref m0), (1, .int x1), (2, .int x2)], [.int x2], M)) rfl rfl rfl ?_
        refine ps_st (S' := (33, [(0, .ref m0), (1, .int x1), (2, .int x2)], [.int 45, .int x2], M)) rfl rfl rfl ?_
        refine ps_if2 (S1 := (46, [(2, .int x2)], [], M)) (S2 := (36, [(0, .ref m0), (1, .int x1), (2, .int x2)], [], M)) rfl rfl rfl (fun c_33 => ?_) (fun c_33 => ?_)
        · have c_33 : 45 < x2 := of_decide_eq_true c_33
          refine ps_st (S' := (47, [(2, .int x2)], [.int x2], M)) rfl rfl rfl ?_
          refine ps_st (S' := (49, [(2, .int x2)], [.int 59, .int x2], M)) rfl rfl rfl ?_
          refine ps_if2 (S1 := (68, [(2, .int x2)], [], M)) (S2 := (52, [(2, .int x2)], [], M)) rfl rfl rfl (fun c_49 => ?_) (fun c_49 => ?_)
          · have c_49 : x2 < 59 := of_decide_eq_true c_49
            refine ps_st (S' := (69, [(2, .int x2)], [.int x2], M)) rfl rfl rfl ?_
            refine ps_st (S' := (72, [(2, .int x2)], [.int 200, .int x2], M)) rfl rfl rfl ?_
            refine ps_if2 (S1 := (81, [(2, .int x2)], [], M)) (S2 := (75, [(2, .int x2)], [], M)) rfl rfl rfl (fun c_72 => ?_) (fun c_72 => ?_)
            · have c_72 : ¬ x2 = 200 := of_decide_eq_true c_72
              refine ps_st (S' := (82, [(2, .int x2)], [.int x2], M)) rfl rfl rfl ?_
              refine ps_st (S' := (85, [(2, .int x2)], [.int 201, .int x2], M)) rfl rfl rfl ?_
              refine ps_if2 (S1 := (94, [(2, .int x2)], [], M)) (S2 := (88, [(2, .int x2)], [], M)) rfl rfl rfl (fun c_85 => ?_) (fun c_85 => ?_)
              · have c_85 : ¬ x2 = 201 := of_decide_eq_true c_85
                refine ps_st (S' := (95, [], [.int x2], M)) rfl rfl rfl ?_
                exact ps_reti rfl (⟨_, rfl, rfl⟩)
              · have c_85 : ¬ (¬ x2 = 201) := of_decide_eq_false c_85
                refine ps_st (S' := (91, [(2, .int x2)], [.int 168], M)) rfl rfl rfl ?_
                refine ps_st (S' := (95, [], [.int 168], M)) rfl rfl rfl ?_
                exact ps_ret rfl rfl (⟨_, rfl, rfl⟩)
            · have c_72 : ¬ (¬ x2 = 200) := of_decide_eq_false c_72
              refine ps_st (S' := (78, [(2, .int x2)], [.int 167], M)) rfl rfl rfl ?_
              refine ps_st (S' := (95, [], [.int 167], M)) rfl rfl rfl ?_
              exact ps_ret rfl rfl (⟨_, rfl, rfl⟩)
          · have c_49 : ¬ (x2 < 59) := of_decide_eq_false c_49
            refine ps_st (S' := (53, [(2, .int x2)], [.int x2], M)) rfl rfl rfl ?_
            refine ps_st (S' := (55, [(2, .int x2)], [.int 78, .int x2], M)) rfl rfl rfl ?_
            refine ps_if2 (S1 := (68, [(2, .int x2)], [], M)) (S2 := (58, [(2, .int x2)], [], M)) rfl rfl rfl (fun c_55 => ?_) (fun c_55 => ?_)
            · have c_55 : 78 < x2 := of_decide_eq_true c_55
              refine ps_st (S' := (69, [(2, .int x2)], [.int x2], M)) rfl rfl rfl ?_
              refine ps_st (S' := (72, [(2, .int x2)], [.int 200, .int x2], M)) rfl rfl rfl ?_
              refine ps_if2 (S1 := (81, [(2, .int x2)], [], M)) (S2 := (75, [(2, .int x2)], [], M)) rfl rfl rfl (fun c_72 => ?_) (fun c_72 => ?_)
              · have c_72 : ¬ x2 = 200 := of_decide_eq_true c_72
                refine ps_st (S' := (82, [(2, .int x2)], [.int x2], M)) rfl rfl rfl ?_
                refine ps_st (S' := (85, [(2, .int x2)], [.int 201, .int x2], M)) rfl rfl rfl ?_
                refine ps_if2 (S1 := (94, [(2, .int x2)], [], M)) (S2 := (88, [(2, .int x2)], [], M)) rfl rfl rfl (fun c_85 => ?_) (fun c_85 => ?_)
                · have c_85 : ¬ x2 = 201 := of_decide_eq_true c_85
                  refine ps_st (S' := (95, [], [.int x2], M)) rfl rfl rfl ?_
                  exact ps_reti rfl (⟨_, rfl, rfl⟩)
                · have c_85 : ¬ (¬ x2 = 201) := of_decide_eq_false c_85
                  refine ps_st (S' := (91, [(2, .int x2)], [.int 168], M)) rfl rfl rfl ?_
                  refine ps_st (S' := (95, [], [.int 168], M)) rfl rfl rfl ?_
                  exact ps_ret rfl rfl (⟨_, rfl, rfl⟩)
              · have c_72 : ¬ (¬ x2 = 200) := of_decide_eq_false c_72
                refine ps_st (S' := (78, [(2, .int x2)], [.int 167], M)) rfl rfl rfl ?_
                refine ps_st (S' := (95, [], [.int 167], M)) rfl rfl rfl ?_
                exact ps_ret rfl rfl (⟨_, rfl, rfl⟩)
            · have c_55 : ¬ (78 < x2) := of_decide_eq_false c_55
              refine ps_st (S' := (60, [(2, .int x2)], [.int 54], M)) rfl rfl rfl ?_
              refine ps_st (S' := (61, [(2, .int x2)], [.int x2, .int 54], M)) rfl rfl rfl ?_
              refine ps_st (S' := (63, [(2, .int x2)], [.int 59, .int x2, .int 54], M)) rfl rfl rfl ?_
              refine ps_st (S' := (64, [(2, .int x2)], [.int (x2 - 59), .int 54], M)) rfl rfl rfl ?_
              refine ps_st (S' := (65, [(2, .int x2)], [.int 4, .int (x2 - 59), .int 54], M)) rfl rfl rfl ?_
              refine ps_st (S' := (66, [(2, .int x2)], [.int ((x2 - 59) / 4), .int 54], M)) rfl rfl rfl ?_
              refine ps_st (S' := (67, [(2, .int x2)], [.int (54 + ((x2 - 59) / 4))], M)) rfl rfl rfl ?_
              exact ps_reti rfl (⟨_, rfl, rfl⟩)
        · have c_33 : ¬ (45 < x2) := of_decide_eq_false c_33
          refine ps_st (S' := (38, [(0, .ref m0), (1, .int x1), (2, .int x2)], [.int 21], M)) rfl rfl rfl ?_
          refine ps_st (S' := (39, [(0, .ref m0), (1, .int x1), (2, .int x2)], [.int x2, .int 21], M)) rfl rfl rfl ?_
          refine ps_st (S' := (41, [(0, .ref m0), (1, .int x1), (2, .int x2)], [.int 26, .int x2, .int 21], M)) rfl rfl rfl ?_
          refine ps_st (S' := (42, [(0, .ref m0), (1, .int x1), (2, .int x2)], [.int (x2 - 26), .int 21], M)) rfl rfl rfl ?_
          refine ps_st (S' := (43, [(0, .ref m0), (1, .int x1), (2, .int x2)], [.int 4, .int (x2 - 26), .int 21], M)) rfl rfl rfl ?_
          refine ps_st (S' := (44, [(0, .ref m0), (1, .int x1), (2, .int x2)], [.int ((x2 - 26) / 4), .int 21], M)) rfl rfl rfl ?_
          refine ps_st (S' := (45, [(0, .ref m0), (1, .int x1), (2, .int x2)], [.int (21 + ((x2 - 26) / 4))], M)) rfl rfl rfl ?_
          exact ps_reti rfl (⟨_, rfl, rfl⟩)
    · have c_18 : ¬ (¬ x2 = 19) := of_decide_eq_false c_18
      refine ps_st (S' := (23, [(0, .ref m0), (1, .int x1), (2, .int x2)], [.int 18], M)) rfl rfl rfl ?_
      exact ps_ret rfl rfl (⟨_, rfl, rfl⟩)
  · have c_4 : ¬ (¬ x2 = 196) := of_decide_eq_false c_4
    refine ps_st (S' := (8, [(0, .ref m0), (1, .int x1), (2, .int x2)], [.ref m0], M)) rfl rfl rfl ?_
    refine ps_st (S' := (9, [(0, .ref m0), (1, .int x1), (2, .int x2)], [.int x1, .ref m0], M)) rfl rfl rfl ?_
    refine ps_st (S' := (10, [(0, .ref m0), (1, .int x1), (2, .int x2)], [.int 1, .int x1, .ref m0], M)) rfl rfl rfl ?_
    refine ps_st (S' := (11, [(0, .ref m0), (1, .int x1), (2, .int x2)], [.int (x1 + 1), .ref m0], M)) rfl rfl rfl ?_
    refine pl_call (a := [.ref m0, .int (x1 + 1)]) (rest := []) rfl rfl rfl (rd_b1U (x1 := (x1 + 1)) (a77 := a77) hR hi77) (fun v1 M2 q3 => ?_)
    obtain ⟨x4, rfl, rfl⟩ := q3
    show pl _ _ _ (14, [(0, .ref m0), (1, .int x1), (2, .int x2)], [.int x4], M) _
    exact ps_reti rfl (⟨_, rfl, rfl⟩)
set_option maxHeartbeats 2000000 in
theorem rd_firstU {g : xe_G} {m0 : Nat} {q : Nat → Nat} {z : Nat × Nat} {I : rI} {R : rR} {M : mi_H} {x1 x2 a49 a77 : Int32} (hR : RS g m0 q z I R M) (hi49 : I 49 = some a49) (hi77 : I 77 = some a77)   : pt (mT g) 208 [.ref m0, .int x1, .int x2] M (fun v M' => (∃ (x : Int32), v = some (.int x) ∧ M = M')) := by
  refine pt_in (b := mb_208 g) rfl (fun kf => ?_)
  show pl (mT g) kf (mb_208 g).2 (0, [(0, .ref m0), (1, .int x1), (2, .int x2)], [], M) _
  have LL : ∀ (kf : Nat), (∀ (u9 : Nat),  pl (mT g) kf (mb_208 g).2 (15, [(0, .ref m0), (1, .int x1), (2, .int x2)], [], M) (fun v M' => (∃ (x : Int32), v = some (.int x) ∧ M = M'))) ∧ (∀ (u9 : Nat),  pl (mT g) kf (mb_208 g).2 (34, [(0, .ref m0), (1, .int x1), (2, .int x2)], [], M) (fun v M' => (∃ (x : Int32), v = some (.int x) ∧ M = M'))) ∧ (∀ (u9 : Nat),  pl (mT g) kf (mb_208 g).2 (53, [(0, .ref m0), (1, .int x1), (2, .int x2)], [], M) (fun v M' => (∃ (x : Int32), v = some (.int x) ∧ M = M'))) ∧ (∀ (u9 : Nat),  pl (mT g) kf (mb_208 g).2 (68, [(0, .ref m0), (1, .int x1), (2, .int x2)], [], M) (fun v M' => (∃ (x : Int32), v = some (.int x) ∧ M = M'))) ∧ (∀ (u9 : Nat),  pl (mT g) kf (mb_208 g).2 (82, [(0, .ref m0), (1, .int x1), (2, .int x2)], [], M) (fun v M' => (∃ (x : Int32), v = some (.int x) ∧ M = M'))) ∧ (∀ (u9 : Nat),  pl (mT g) kf (mb_208 g).2 (100, [(0, .ref m0), (1, .int x1), (2, .int x2)], [], M) (fun v M' => (∃ (x : Int32), v = some (.int x) ∧ M = M'))) ∧ (∀ (u9 : Nat),  pl (mT g) kf (mb_208 g).2 (112, [(0, .ref m0), (1, .int x1), (2, .int x2)], [], M) (fun v M' => (∃ (x : Int32), v = some (.int x) ∧ M = M'))) ∧ (∀ (u9 : Nat),  pl (mT g) kf (mb_208 g).2 (133, [(0, .ref m0), (1, .int x1)], [], M) (fun v M' => (∃ (x : Int32), v = some (.int x) ∧ M = M'))) ∧ (∀ (u9 : Nat),  pl (mT g) kf (mb_208 g).2 (141, [(0, .ref m0), (1, .int x1), (2, .int x2)], [], M) (fun v M' => (∃ (x : Int32), v = some (.int x) ∧ M = M'))) ∧ (∀ (u9 : Nat),  pl (mT g) kf (mb_208 g).2 (155, [(0, .ref m0), (1, .int x1), (2, .int x2)], [], M) (fun v M' => (∃ (x : Int32), v = some (.int x) ∧ M = M'))) ∧ (∀ (u9 : Nat),  pl (mT g) kf (mb_208 g).2 (169, [(0, .ref m0), (1, .int x1)], [], M) (fun v M' => (∃ (x : Int32), v = some (.int x) ∧ M = M'))) ∧ (∀ (u9 : Nat),  pl (mT g) kf (mb_208 g).2 (184, [(0, .ref m0), (1, .int x1), (2, .int x2)], [], M) (fun v M' => (∃ (x : Int32), v = some (.int x) ∧ M = M'))) ∧ (∀ (u9 : Nat),  pl (mT g) kf (mb_208 g).2 (213, [(0, .ref m0), (1, .int x1), (2, .int x2)], [], M) (fun v M' => (∃ (x : Int32), v = some (.int x) ∧ M = M'))) ∧ (∀ (u9 : Nat),  pl (mT g) kf (mb_208 g).2 (238, [(0, .ref m0), (1, .int x1), (2, .int x2)], [], M) (fun v M' => (∃ (x : Int32), v = some (.int x) ∧ M = M'))) ∧ (∀ (u9 : Nat),  pl (mT g) kf (mb_208 g).2 (264, [(0, .ref m0), (1, .int x1), (2, .int x2)], [], M) (fun v M' => (∃ (x : Int32), v = some (.int x) ∧ M = M'))) ∧ (∀ (u9 : Nat),  pl (mT g) kf (mb_208 g).2 (292, [(0, .ref m0), (1, .int x1)], [], M) (fun v M' => (∃ (x : Int32), v = some (.int x) ∧ M = M'))) := by
    intro kf
    induction kf with
    | zero => exact ⟨by intros; exact pl_0, by intros; exact pl_0, by intros; exact pl_0, by intros; exact pl_0, by intros; exact pl_0, by intros; exact pl_0, by intros; exact pl_0, by intros; exact pl_0, by intros; exact pl_0, by intros; exact pl_0, by intros; exact pl_0, by intros; exact pl_0, by intros; exact pl_0, by intros; exact pl_0, by intros; exact pl_0, by intros; exact pl_0⟩
    | succ kf ih =>
      refine ⟨?_, ?_, ?_, ?_, ?_, ?_, ?_, ?_, ?_, ?_, ?_, ?_, ?_, ?_, ?_, ?_⟩
      · skip
        intro u9
        refine ps_st1 (S' := (16, [(0, .ref m0), (1, .int x1), (2, .int x2)], [.int x2], M)) rfl rfl rfl ?_
        refine ps_st (S' := (18, [(0, .ref m0), (1, .int x1), (2, .int x2)], [.int 26, .int x2], M)) rfl rfl rfl ?_
        refine ps_if2 (S1 := (34, [(0, .ref m0), (1, .int x1), (2, .int x2)], [], M)) (S2 := (21, [(0, .ref m0), (1, .int x1), (2, .int x2)], [], M)) rfl rfl rfl (fun c_18 => ?_) (fun c_18 => ?_)
        · have c_18 : x2 < 26 := of_decide_eq_true c_18
          exact ih.2.1 (0)  
        · have c_18 : ¬ (x2 < 26) := of_decide_eq_false c_18
          refine ps_st (S' := (22, [(0, .ref m0), (1, .int x1), (2, .int x2)], [.int x2], M)) rfl rfl rfl ?_
          refine ps_st (S' := (24, [(0, .ref m0), (1, .int x1), (2, .int x2)], [.int 45, .int x2], M)) rfl rfl rfl ?_
          refine ps_if2 (S1 := (34, [(0, .ref m0), (1, .int x1), (2, .int x2)], [], M)) (S2 := (27, [(0, .ref m0), (1, .int x1), (2, .int x2)], [], M)) rfl rfl rfl (fun c_24 => ?_) (fun c_24 => ?_)
          · have c_24 : 45 < x2 := of_decide_eq_true c_24
            exact ih.2.1 (0)  
          · have c_24 : ¬ (45 < x2) := of_decide_eq_false c_24
            refine ps_st (S' := (28, [(0, .ref m0), (1, .int x1), (2, .int x2)], [.int x2], M)) rfl rfl rfl ?_
            refine ps_st (S' := (30, [(0, .ref m0), (1, .int x1), (2, .int x2)], [.int 26, .int x2], M)) rfl rfl rfl ?_
            refine ps_st (S' := (31, [(0, .ref m0), (1, .int x1), (2, .int x2)], [.int (x2 - 26)], M)) rfl rfl rfl ?_
            refine ps_st (S' := (32, [(0, .ref m0), (1, .int x1), (2, .int x2)], [.int 4, .int (x2 - 26)], M)) rfl rfl rfl ?_
            refine ps_st (S' := (33, [(0, .ref m0), (1, .int x1), (2, .int x2)], [.int ((x2 - 26) - (x2 - 26) / 4 * 4)], M)) rfl rfl rfl ?_
            exact ps_reti rfl (⟨_, rfl, rfl⟩)
      · skip
        intro u9
        refine ps_st1 (S' := (35, [(0, .ref m0), (1, .int x1), (2, .int x2)], [.int x2], M)) rfl rfl rfl ?_
        refine ps_st (S' := (37, [(0, .ref m0), (1, .int x1), (2, .int x2)], [.int 59, .int x2], M)) rfl rfl rfl ?_
        refine ps_if2 (S1 := (53, [(0, .ref m0), (1, .int x1), (2, .int x2)], [], M)) (S2 := (40, [(0, .ref m0), (1, .int x1), (2, .int x2)], [], M)) rfl rfl rfl (fun c_37 => ?_) (fun c_37 => ?_)
        · have c_37 : x2 < 59 := of_decide_eq_true c_37
          exact ih.2.2.1 (0)  
        · have c_37 : ¬ (x2 < 59) := of_decide_eq_false c_37
          refine ps_st (S' := (41, [(0, .ref m0), (1, .int x1), (2, .int x2)], [.int x2], M)) rfl rfl rfl ?_
          refine ps_st (S' := (43, [(0, .ref m0), (1, .int x1), (2, .int x2)], [.int 78, .int x2], M)) rfl rfl rfl ?_
          refine ps_if2 (S1 := (53, [(0, .ref m0), (1, .int x1), (2, .int x2)], [], M)) (S2 := (46, [(0, .ref m0), (1, .int x1), (2, .int x2)], [], M)) rfl rfl rfl (fun c_43 => ?_) (fun c_43 => ?_)
          · have c_43 : 78 < x2 := of_decide_eq_true c_43
            exact ih.2.2.1 (0)  
          · have c_43 : ¬ (78 < x2) := of_decide_eq_false c_43
            refine ps_st (S' := (47, [(0, .ref m0), (1, .int x1), (2, .int x2)], [.int x2], M)) rfl rfl rfl ?_
            refine ps_st (S' := (49, [(0, .ref m0), (1, .int x1), (2, .int x2)], [.int 59, .int x2], M)) rfl rfl rfl ?_
            refine ps_st (S' := (50, [(0, .ref m0), (1, .int x1), (2, .int x2)], [.int (x2 - 59)], M)) rfl rfl rfl ?_
            refine ps_st (S' := (51, [(0, .ref m0), (1, .int x1), (2, .int x2)], [.int 4, .int (x2 - 59)], M)) rfl rfl rfl ?_
            refine ps_st (S' := (52, [(0, .ref m0), (1, .int x1), (2, .int x2)], [.int ((x2 - 59) - (x2 - 59) / 4 * 4)], M)) rfl rfl rfl ?_
            exact ps_reti rfl (⟨_, rfl, rfl⟩)
      · skip
        intro u9
        refine ps_st1 (S' := (54, [(0, .ref m0), (1, .int x1), (2, .int x2)], [.int x2], M)) rfl rfl rfl ?_
        refine ps_st (S' := (56, [(0, .ref m0), (1, .int x1), (2, .int x2)], [.int 16, .int x2], M)) rfl rfl rfl ?_
        refine ps_if2 (S1 := (68, [(0, .ref m0), (1, .int x1), (2, .int x2)], [], M)) (S2 := (59, [(0, .ref m0), (1, .int x1), (2, .int x2)], [], M)) rfl rfl rfl (fun c_56 => ?_) (fun c_56 => ?_)
        · have c_56 : ¬ x2 = 16 := of_decide_eq_true c_56
          exact ih.2.2.2.1 (0)  
        · have c_56 : ¬ (¬ x2 = 16) := of_decide_eq_false c_56
          refine ps_st (S' := (60, [(0, .ref m0), (1, .int x1), (2, .int x2)], [.ref m0], M)) rfl rfl rfl ?_
          refine ps_st (S' := (61, [(0, .ref m0), (1, .int x1), (2, .int x2)], [.int x1, .ref m0], M)) rfl rfl rfl ?_
          refine ps_st (S' := (62, [(0, .ref m0), (1, .int x1), (2, .int x2)], [.int 1, .int x1, .ref m0], M)) rfl rfl rfl ?_
          refine ps_st (S' := (63, [(0, .ref m0), (1, .int x1), (2, .int x2)], [.int (x1 + 1), .ref m0], M)) rfl rfl rfl ?_
          refine pl_call (a := [.ref m0, .int (x1 + 1)]) (rest := []) rfl rfl rfl (rd_b1U (x1 := (x1 + 1)) (a77 := a77) hR hi77) (fun v1 M2 q3 => ?_)
          obtain ⟨x4, rfl, rfl⟩ := q3
          show pl _ _ _ (66, [(0, .ref m0), (1, .int x1), (2, .int x2)], [.int x4], M) _
          refine ps_st (S' := (67, [(0, .ref m0), (1, .int x1), (2, .int x2)], [.int (x4.toInt8.toInt32)], M)) rfl rfl rfl ?_
          exact ps_reti rfl (⟨_, rfl, rfl⟩)
      · skip
        intro u9
        refine ps_st1 (S' := (69, [(0, .ref m0), (1, .int x1), (2, .int x2)], [.int x2], M)) rfl rfl rfl ?_
        refine ps_st (S' := (71, [(0, .ref m0), (1, .int x1), (2, .int x2)], [.int 17, .int x2], M)) rfl rfl rfl ?_
        refine ps_if2 (S1 := (82, [(0, .ref m0), (1, .int x1), (2, .int x2)], [], M)) (S2 := (74, [(0, .ref m0), (1, .int x1), (2, .int x2)], [], M)) rfl rfl rfl (fun c_71 => ?_) (fun c_71 => ?_)
        · have c_71 : ¬ x2 = 17 := of_decide_eq_true c_71
          exact ih.2.2.2.2.1 (0)  
        · have c_71 : ¬ (¬ x2 = 17) := of_decide_eq_false c_71
          refine ps_st (S' := (75, [(0, .ref m0), (1, .int x1), (2, .int x2)], [.ref m0], M)) rfl rfl rfl ?_
          refine ps_st (S' := (76, [(0, .ref m0), (1, .int x1), (2, .int x2)], [.int x1, .ref m0], M)) rfl rfl rfl ?_
          refine ps_st (S' := (77, [(0, .ref m0), (1, .int x1), (2, .int x2)], [.int 1, .int x1, .ref m0], M)) rfl rfl rfl ?_
          refine ps_st (S' := (78, [(0, .ref m0), (1, .int x1), (2, .int x2)], [.int (x1 + 1), .ref m0], M)) rfl rfl rfl ?_
          refine pl_call (a := [.ref m0, .int (x1 + 1)]) (rest := []) rfl rfl rfl (rd_s2U (x1 := (x1 + 1)) (a49 := a49) (a77 := a77) hR hi49 hi77) (fun v5 M6 q7 => ?_)
          obtain ⟨x8, rfl, rfl⟩ := q7
          show pl _ _ _ (81, [(0, .ref m0), (1, .int x1), (2, .int x2)], [.int x8], M) _
          exact ps_reti rfl (⟨_, rfl, rfl⟩)
      · skip
        intro u9
        refine ps_st1 (S' := (83, [(0, .ref m0), (1, .int x1), (2, .int x2)], [.int x2], M)) rfl rfl rfl ?_
        refine ps_st (S' := (85, [(0, .ref m0), (1, .int x1), (2, .int x2)], [.int 18, .int x2], M)) rfl rfl rfl ?_
        refine ps_if2 (S1 := (133, [(0, .ref m0), (1, .int x1)], [], M)) (S2 := (88, [(0, .ref m0), (1, .int x1), (2, .int x2)], [], M)) rfl rfl rfl (fun c_85 => ?_) (fun c_85 => ?_)
        · have c_85 : x2 = 18 := of_decide_eq_true c_85
          exact ih.2.2.2.2.2.2.2.1 (0)  
        · have c_85 : ¬ (x2 = 18) := of_decide_eq_false c_85
          refine ps_st (S' := (89, [(0, .ref m0), (1, .int x1), (2, .int x2)], [.int x2], M)) rfl rfl rfl ?_
          refine ps_st (S' := (91, [(0, .ref m0), (1, .int x1), (2, .int x2)], [.int 21, .int x2], M)) rfl rfl rfl ?_
          refine ps_if2 (S1 := (100, [(0, .ref m0), (1, .int x1), (2, .int x2)], [], M)) (S2 := (94, [(0, .ref m0), (1, .int x1), (2, .int x2)], [], M)) rfl rfl rfl (fun c_91 => ?_) (fun c_91 => ?_)
          · have c_91 : x2 < 21 := of_decide_eq_true c_91
            exact ih.2.2.2.2.2.1 (0)  
          · have c_91 : ¬ (x2 < 21) := of_decide_eq_false c_91
            refine ps_st (S' := (95, [(0, .ref m0), (1, .int x1), (2, .int x2)], [.int x2], M)) rfl rfl rfl ?_
            refine ps_st (S' := (97, [(0, .ref m0), (1, .int x1), (2, .int x2)], [.int 25, .int x2], M)) rfl rfl rfl ?_
            refine ps_if2 (S1 := (133, [(0, .ref m0), (1, .int x1)], [], M)) (S2 := (100, [(0, .ref m0), (1, .int x1), (2, .int x2)], [], M)) rfl rfl rfl (fun c_97 => ?_) (fun c_97 => ?_)
            · have c_97 : x2 ≤ 25 := of_decide_eq_true c_97
              exact ih.2.2.2.2.2.2.2.1 (0)  
            · have c_97 : ¬ (x2 ≤ 25) := of_decide_eq_false c_97
              exact ih.2.2.2.2.2.1 (0)  
      · skip
        intro u9
        refine ps_st1 (S' := (101, [(0, .ref m0), (1, .int x1), (2, .int x2)], [.int x2], M)) rfl rfl rfl ?_
        refine ps_st (S' := (103, [(0, .ref m0), (1, .int x1), (2, .int x2)], [.int 54, .int x2], M)) rfl rfl rfl ?_
        refine ps_if2 (S1 := (112, [(0, .ref m0), (1, .int x1), (2, .int x2)], [], M)) (S2 := (106, [(0, .ref m0), (1, .int x1), (2, .int x2)], [], M)) rfl rfl rfl (fun c_103 => ?_) (fun c_103 => ?_)
        · have c_103 : x2 < 54 := of_decide_eq_true c_103
          exact ih.2.2.2.2.2.2.1 (0)  
        · have c_103 : ¬ (x2 < 54) := of_decide_eq_false c_103
          refine ps_st (S' := (107, [(0, .ref m0), (1, .int x1), (2, .int x2)], [.int x2], M)) rfl rfl rfl ?_
          refine ps_st (S' := (109, [(0, .ref m0), (1, .int x1), (2, .int x2)], [.int 58, .int x2], M)) rfl rfl rfl ?_
          refine ps_if2 (S1 := (133, [(0, .ref m0), (1, .int x1)], [], M)) (S2 := (112, [(0, .ref m0), (1, .int x1), (2, .int x2)], [], M)) rfl rfl rfl (fun c_109 => ?_) (fun c_109 => ?_)
          · have c_109 : x2 ≤ 58 := of_decide_eq_true c_109
            exact ih.2.2.2.2.2.2.2.1 (0)  
          · have c_109 : ¬ (x2 ≤ 58) := of_decide_eq_false c_109
            exact ih.2.2.2.2.2.2.1 (0)  
      · skip
        intro u9
        refine ps_st1 (S' := (113, [(0, .ref m0), (1, .int x1), (2, .int x2)], [.int x2], M)) rfl rfl rfl ?_
        refine ps_st (S' := (116, [(0, .ref m0), (1, .int x1), (2, .int x2)], [.int 132, .int x2], M)) rfl rfl rfl ?_
        refine ps_if2 (S1 := (133, [(0, .ref m0), (1, .int x1)], [], M)) (S2 := (119, [(0, .ref m0), (1, .int x1), (2, .int x2)], [], M)) rfl rfl rfl (fun c_116 => ?_) (fun c_116 => ?_)
        · have c_116 : x2 = 132 := of_decide_eq_true c_116
          exact ih.2.2.2.2.2.2.2.1 (0)  
        · have c_116 : ¬ (x2 = 132) := of_decide_eq_false c_116
          refine ps_st (S' := (120, [(0, .ref m0), (1, .int x1), (2, .int x2)], [.int x2], M)) rfl rfl rfl ?_
          refine ps_st (S' := (123, [(0, .ref m0), (1, .int x1), (2, .int x2)], [.int 169, .int x2], M)) rfl rfl rfl ?_
          refine ps_if2 (S1 := (133, [(0, .ref m0), (1, .int x1)], [], M)) (S2 := (126, [(0, .ref m0), (1, .int x1), (2, .int x2)], [], M)) rfl rfl rfl (fun c_123 => ?_) (fun c_123 => ?_)
          · have c_123 : x2 = 169 := of_decide_eq_true c_123
            exact ih.2.2.2.2.2.2.2.1 (0)  
          · have c_123 : ¬ (x2 = 169) := of_decide_eq_false c_123
            refine ps_st (S' := (127, [(0, .ref m0), (1, .int x1), (2, .int x2)], [.int x2], M)) rfl rfl rfl ?_
            refine ps_st (S' := (130, [(0, .ref m0), (1, .int x1), (2, .int x2)], [.int 188, .int x2], M)) rfl rfl rfl ?_
            refine ps_if2 (S1 := (141, [(0, .ref m0), (1, .int x1), (2, .int x2)], [], M)) (S2 := (133, [(0, .ref m0), (1, .int x1)], [], M)) rfl rfl rfl (fun c_130 => ?_) (fun c_130 => ?_)
            · have c_130 : ¬ x2 = 188 := of_decide_eq_true c_130
              exact ih.2.2.2.2.2.2.2.2.1 (0)  
            · have c_130 : ¬ (¬ x2 = 188) := of_decide_eq_false c_130
              exact ih.2.2.2.2.2.2.2.1 (0)  
      · skip
        intro u9
        refine ps_st1 (S' := (134, [(0, .ref m0), (1, .int x1)], [.ref m0], M)) rfl rfl rfl ?_
        refine ps_st (S' := (135, [(0, .ref m0), (1, .int x1)], [.int x1, .ref m0], M)) rfl rfl rfl ?_
        refine ps_st (S' := (136, [(0, .ref m0), (1, .int x1)], [.int 1, .int x1, .ref m0], M)) rfl rfl rfl ?_
        refine ps_st (S' := (137, [(0, .ref m0), (1, .int x1)], [.int (x1 + 1), .ref m0], M)) rfl rfl rfl ?_
        refine pl_call (a := [.ref m0, .int (x1 + 1)]) (rest := []) rfl rfl rfl (rd_b1U (x1 := (x1 + 1)) (a77 := a77) hR hi77) (fun v9 M10 q11 => ?_)
        obtain ⟨x12, rfl, rfl⟩ := q11
        show pl _ _ _ (140, [(0, .ref m0), (1, .int x1)], [.int x12], M) _
        exact ps_reti rfl (⟨_, rfl, rfl⟩)
      · skip
        intro u9
        refine ps_st1 (S' := (142, [(0, .ref m0), (1, .int x1), (2, .int x2)], [.int x2], M)) rfl rfl rfl ?_
        refine ps_st (S' := (145, [(0, .ref m0), (1, .int x1), (2, .int x2)], [.int 153, .int x2], M)) rfl rfl rfl ?_
        refine ps_if2 (S1 := (155, [(0, .ref m0), (1, .int x1), (2, .int x2)], [], M)) (S2 := (148, [(0, .ref m0), (1, .int x1), (2, .int x2)], [], M)) rfl rfl rfl (fun c_145 => ?_) (fun c_145 => ?_)
        · have c_145 : x2 < 153 := of_decide_eq_true c_145
          exact ih.2.2.2.2.2.2.2.2.2.1 (0)  
        · have c_145 : ¬ (x2 < 153) := of_decide_eq_false c_145
          refine ps_st (S' := (149, [(0, .ref m0), (1, .int x1), (2, .int x2)], [.int x2], M)) rfl rfl rfl ?_
          refine ps_st (S' := (152, [(0, .ref m0), (1, .int x1), (2, .int x2)], [.int 168, .int x2], M)) rfl rfl rfl ?_
          refine ps_if2 (S1 := (169, [(0, .ref m0), (1, .int x1)], [], M)) (S2 := (155, [(0, .ref m0), (1, .int x1), (2, .int x2)], [], M)) rfl rfl rfl (fun c_152 => ?_) (fun c_152 => ?_)
          · have c_152 : x2 ≤ 168 := of_decide_eq_true c_152
            exact ih.2.2.2.2.2.2.2.2.2.2.1 (0)  
          · have c_152 : ¬ (x2 ≤ 168) := of_decide_eq_false c_152
            exact ih.2.2.2.2.2.2.2.2.2.1 (0)  
      · skip
        intro u9
        refine ps_st1 (S' := (156, [(0, .ref m0), (1, .int x1), (2, .int x2)], [.int x2], M)) rfl rfl rfl ?_
        refine ps_st (S' := (159, [(0, .ref m0), (1, .int x1), (2, .int x2)], [.int 198, .int x2], M)) rfl rfl rfl ?_
        refine ps_if2 (S1 := (169, [(0, .ref m0), (1, .int x1)], [], M)) (S2 := (162, [(0, .ref m0), (1, .int x1), (2, .int x2)], [], M)) rfl rfl rfl (fun c_159 => ?_) (fun c_159 => ?_)
        · have c_159 : x2 = 198 := of_decide_eq_true c_159
          exact ih.2.2.2.2.2.2.2.2.2.2.1 (0)  
        · have c_159 : ¬ (x2 = 198) := of_decide_eq_false c_159
          refine ps_st (S' := (163, [(0, .ref m0), (1, .int x1), (2, .int x2)], [.int x2], M)) rfl rfl rfl ?_
          refine ps_st (S' := (166, [(0, .ref m0), (1, .int x1), (2, .int x2)], [.int 199, .int x2], M)) rfl rfl rfl ?_
          refine ps_if2 (S1 := (184, [(0, .ref m0), (1, .int x1), (2, .int x2)], [], M)) (S2 := (169, [(0, .ref m0), (1, .int x1)], [], M)) rfl rfl rfl (fun c_166 => ?_) (fun c_166 => ?_)
          · have c_166 : ¬ x2 = 199 := of_decide_eq_true c_166
            exact ih.2.2.2.2.2.2.2.2.2.2.2.1 (0)  
          · have c_166 : ¬ (¬ x2 = 199) := of_decide_eq_false c_166
            exact ih.2.2.2.2.2.2.2.2.2.2.1 (0)  
      · skip
        intro u9
        refine ps_st1 (S' := (170, [(0, .ref m0), (1, .int x1)], [.ref m0], M)) rfl rfl rfl ?_
        refine pr_ref (j := 81) (S' := (173, [(0, .ref m0), (1, .int x1)], [.ref (q 81)], M)) rfl hR rfl rfl ?_
        refine ps_st (S' := (174, [(0, .ref m0), (1, .int x1)], [.int x1, .ref (q 81)], M)) rfl rfl rfl ?_
        refine ps_st (S' := (175, [(0, .ref m0), (1, .int x1)], [.ref m0, .int x1, .ref (q 81)], M)) rfl rfl rfl ?_
        refine ps_st (S' := (176, [(0, .ref m0), (1, .int x1)], [.int x1, .ref m0, .int x1, .ref (q 81)], M)) rfl rfl rfl ?_
        refine ps_st (S' := (177, [(0, .ref m0), (1, .int x1)], [.int 1, .int x1, .ref m0, .int x1, .ref (q 81)], M)) rfl rfl rfl ?_
        refine ps_st (S' := (178, [(0, .ref m0), (1, .int x1)], [.int (x1 + 1), .ref m0, .int x1, .ref (q 81)], M)) rfl rfl rfl ?_
        refine pl_call (a := [.ref m0, .int (x1 + 1)]) (rest := [.int x1, .ref (q 81)]) rfl rfl rfl (rd_s2U (x1 := (x1 + 1)) (a49 := a49) (a77 := a77) hR hi49 hi77) (fun v13 M14 q15 => ?_)
        obtain ⟨x16, rfl, rfl⟩ := q15
        show pl _ _ _ (181, [(0, .ref m0), (1, .int x1)], [.int x16, .int x1, .ref (q 81)], M) _
        refine ps_st (S' := (182, [(0, .ref m0), (1, .int x1)], [.int (x1 + x16), .ref (q 81)], M)) rfl rfl rfl ?_
        refine pr_ldu (a := 81) rfl hR rfl (fun y_182 i0_182 i1_182 hy_182 => ?_)
        show pl _ _ _ (183, [(0, .ref m0), (1, .int x1)], [.int y_182], M) _
        exact ps_reti rfl (⟨_, rfl, rfl⟩)
      · skip
        intro u9
        refine ps_st1 (S' := (185, [(0, .ref m0), (1, .int x1), (2, .int x2)], [.int x2], M)) rfl rfl rfl ?_
        refine ps_st (S' := (188, [(0, .ref m0), (1, .int x1), (2, .int x2)], [.int 200, .int x2], M)) rfl rfl rfl ?_
        refine ps_if2 (S1 := (198, [(0, .ref m0), (1, .int x1)], [], M)) (S2 := (191, [(0, .ref m0), (1, .int x1), (2, .int x2)], [], M)) rfl rfl rfl (fun c_188 => ?_) (fun c_188 => ?_)
        · have c_188 : x2 = 200 := of_decide_eq_true c_188
          refine ps_st (S' := (199, [(0, .ref m0), (1, .int x1)], [.ref m0], M)) rfl rfl rfl ?_
          refine pr_ref (j := 81) (S' := (202, [(0, .ref m0), (1, .int x1)], [.ref (q 81)], M)) rfl hR rfl rfl ?_
          refine ps_st (S' := (203, [(0, .ref m0), (1, .int x1)], [.int x1, .ref (q 81)], M)) rfl rfl rfl ?_
          refine ps_st (S' := (204, [(0, .ref m0), (1, .int x1)], [.ref m0, .int x1, .ref (q 81)], M)) rfl rfl rfl ?_
          refine ps_st (S' := (205, [(0, .ref m0), (1, .int x1)], [.int x1, .ref m0, .int x1, .ref (q 81)], M)) rfl rfl rfl ?_
          refine ps_st (S' := (206, [(0, .ref m0), (1, .int x1)], [.int 1, .int x1, .ref m0, .int x1, .ref (q 81)], M)) rfl rfl rfl ?_
          refine ps_st (S' := (207, [(0, .ref m0), (1, .int x1)], [.int (x1 + 1), .ref m0, .int x1, .ref (q 81)], M)) rfl rfl rfl ?_
          refine pl_call (a := [.ref m0, .int (x1 + 1)]) (rest := [.int x1, .ref (q 81)]) rfl rfl rfl (rd_b4U (x1 := (x1 + 1)) (a49 := a49) (a77 := a77) hR hi49 hi77) (fun v17 M18 q19 => ?_)
          obtain ⟨x20, rfl, rfl⟩ := q19
          show pl _ _ _ (210, [(0, .ref m0), (1, .int x1)], [.int x20, .int x1, .ref (q 81)], M) _
          refine ps_st (S' := (211, [(0, .ref m0), (1, .int x1)], [.int (x1 + x20), .ref (q 81)], M)) rfl rfl rfl ?_
          refine pr_ldu (a := 81) rfl hR rfl (fun y_211 i0_211 i1_211 hy_211 => ?_)
          show pl _ _ _ (212, [(0, .ref m0), (1, .int x1)], [.int y_211], M) _
          exact ps_reti rfl (⟨_, rfl, rfl⟩)
        · have c_188 : ¬ (x2 = 200) := of_decide_eq_false c_188
          refine ps_st (S' := (192, [(0, .ref m0), (1, .int x1), (2, .int x2)], [.int x2], M)) rfl rfl rfl ?_
          refine ps_st (S' := (195, [(0, .ref m0), (1, .int x1), (2, .int x2)], [.int 201, .int x2], M)) rfl rfl rfl ?_
          refine ps_if2 (S1 := (213, [(0, .ref m0), (1, .int x1), (2, .int x2)], [], M)) (S2 := (198, [(0, .ref m0), (1, .int x1)], [], M)) rfl rfl rfl (fun c_195 => ?_) (fun c_195 => ?_)
          · have c_195 : ¬ x2 = 201 := of_decide_eq_true c_195
            exact ih.2.2.2.2.2.2.2.2.2.2.2.2.1 (0)  
          · have c_195 : ¬ (¬ x2 = 201) := of_decide_eq_false c_195
            refine ps_st (S' := (199, [(0, .ref m0), (1, .int x1)], [.ref m0], M)) rfl rfl rfl ?_
            refine pr_ref (j := 81) (S' := (202, [(0, .ref m0), (1, .int x1)], [.ref (q 81)], M)) rfl hR rfl rfl ?_
            refine ps_st (S' := (203, [(0, .ref m0), (1, .int x1)], [.int x1, .ref (q 81)], M)) rfl rfl rfl ?_
            refine ps_st (S' := (204, [(0, .ref m0), (1, .int x1)], [.ref m0, .int x1, .ref (q 81)], M)) rfl rfl rfl ?_
            refine ps_st (S' := (205, [(0, .ref m0), (1, .int x1)], [.int x1, .ref m0, .int x1, .ref (q 81)], M)) rfl rfl rfl ?_
            refine ps_st (S' := (206, [(0, .ref m0), (1, .int x1)], [.int 1, .int x1, .ref m0, .int x1, .ref (q 81)], M)) rfl rfl rfl ?_
            refine ps_st (S' := (207, [(0, .ref m0), (1, .int x1)], [.int (x1 + 1), .ref m0, .int x1, .ref (q 81)], M)) rfl rfl rfl ?_
            refine pl_call (a := [.ref m0, .int (x1 + 1)]) (rest := [.int x1, .ref (q 81)]) rfl rfl rfl (rd_b4U (x1 := (x1 + 1)) (a49 := a49) (a77 := a77) hR hi49 hi77) (fun v21 M22 q23 => ?_)
            obtain ⟨x24, rfl, rfl⟩ := q23
            show pl _ _ _ (210, [(0, .ref m0), (1, .int x1)], [.int x24, .int x1, .ref (q 81)], M) _
            refine ps_st (S' := (211, [(0, .ref m0), (1, .int x1)], [.int (x1 + x24), .ref (q 81)], M)) rfl rfl rfl ?_
            refine pr_ldu (a := 81) rfl hR rfl (fun y_211 i0_211 i1_211 hy_211 => ?_)
            show pl _ _ _ (212, [(0, .ref m0), (1, .int x1)], [.int y_211], M) _
            exact ps_reti rfl (⟨_, rfl, rfl⟩)
      · skip
        intro u9
        refine ps_st1 (S' := (214, [(0, .ref m0), (1, .int x1), (2, .int x2)], [.int x2], M)) rfl rfl rfl ?_
        refine ps_st (S' := (217, [(0, .ref m0), (1, .int x1), (2, .int x2)], [.int 170, .int x2], M)) rfl rfl rfl ?_
        refine ps_if2 (S1 := (227, [(0, .ref m0), (1, .int x1)], [], M)) (S2 := (220, [(0, .ref m0), (1, .int x1), (2, .int x2)], [], M)) rfl rfl rfl (fun c_217 => ?_) (fun c_217 => ?_)
        · have c_217 : x2 = 170 := of_decide_eq_true c_217
          refine ps_st (S' := (228, [(0, .ref m0), (1, .int x1)], [.ref m0], M)) rfl rfl rfl ?_
          refine ps_st (S' := (229, [(0, .ref m0), (1, .int x1)], [.int x1, .ref m0], M)) rfl rfl rfl ?_
          refine pl_call (a := [.int x1]) (rest := [.ref m0]) rfl rfl rfl (rd_padU (x1 := x1) hR) (fun v25 M26 q27 => ?_)
          obtain ⟨x28, rfl, rfl⟩ := q27
          show pl _ _ _ (232, [(0, .ref m0), (1, .int x1)], [.int x28, .ref m0], M) _
          refine ps_st (S' := (233, [(0, .ref m0), (1, .int x1)], [.int 4, .int x28, .ref m0], M)) rfl rfl rfl ?_
          refine ps_st (S' := (234, [(0, .ref m0), (1, .int x1)], [.int (x28 + 4), .ref m0], M)) rfl rfl rfl ?_
          refine pl_call (a := [.ref m0, .int (x28 + 4)]) (rest := []) rfl rfl rfl (rd_b4U (x1 := (x28 + 4)) (a49 := a49) (a77 := a77) hR hi49 hi77) (fun v29 M30 q31 => ?_)
          obtain ⟨x32, rfl, rfl⟩ := q31
          show pl _ _ _ (237, [(0, .ref m0), (1, .int x1)], [.int x32], M) _
          exact ps_reti rfl (⟨_, rfl, rfl⟩)
        · have c_217 : ¬ (x2 = 170) := of_decide_eq_false c_217
          refine ps_st (S' := (221, [(0, .ref m0), (1, .int x1), (2, .int x2)], [.int x2], M)) rfl rfl rfl ?_
          refine ps_st (S' := (224, [(0, .ref m0), (1, .int x1), (2, .int x2)], [.int 171, .int x2], M)) rfl rfl rfl ?_
          refine ps_if2 (S1 := (238, [(0, .ref m0), (1, .int x1), (2, .int x2)], [], M)) (S2 := (227, [(0, .ref m0), (1, .int x1)], [], M)) rfl rfl rfl (fun c_224 => ?_) (fun c_224 => ?_)
          · have c_224 : ¬ x2 = 171 := of_decide_eq_true c_224
            exact ih.2.2.2.2.2.2.2.2.2.2.2.2.2.1 (0)  
          · have c_224 : ¬ (¬ x2 = 171) := of_decide_eq_false c_224
            refine ps_st (S' := (228, [(0, .ref m0), (1, .int x1)], [.ref m0], M)) rfl rfl rfl ?_
            refine ps_st (S' := (229, [(0, .ref m0), (1, .int x1)], [.int x1, .ref m0], M)) rfl rfl rfl ?_
            refine pl_call (a := [.int x1]) (rest := [.ref m0]) rfl rfl rfl (rd_padU (x1 := x1) hR) (fun v33 M34 q35 => ?_)
            obtain ⟨x36, rfl, rfl⟩ := q35
            show pl _ _ _ (232, [(0, .ref m0), (1, .int x1)], [.int x36, .ref m0], M) _
            refine ps_st (S' := (233, [(0, .ref m0), (1, .int x1)], [.int 4, .int x36, .ref m0], M)) rfl rfl rfl ?_
            refine ps_st (S' := (234, [(0, .ref m0), (1, .int x1)], [.int (x36 + 4), .ref m0], M)) rfl rfl rfl ?_
            refine pl_call (a := [.ref m0, .int (x36 + 4)]) (rest := []) rfl rfl rfl (rd_b4U (x1 := (x36 + 4)) (a49 := a49) (a77 := a77) hR hi49 hi77) (fun v37 M38 q39 => ?_)
            obtain ⟨x40, rfl, rfl⟩ := q39
            show pl _ _ _ (237, [(0, .ref m0), (1, .int x1)], [.int x40], M) _
            exact ps_reti rfl (⟨_, rfl, rfl⟩)
      · skip
        intro u9
        refine ps_st1 (S' := (239, [(0, .ref m0), (1, .int x1), (2, .int x2)], [.int x2], M)) rfl rfl rfl ?_
        refine ps_st (S' := (241, [(0, .ref m0), (1, .int x1), (2, .int x2)], [.int 19, .int x2], M)) rfl rfl rfl ?_
        refine ps_if2 (S1 := (292, [(0, .ref m0), (1, .int x1)], [], M)) (S2 := (244, [(0, .ref m0), (1, .int x1), (2, .int x2)], [], M)) rfl rfl rfl (fun c_241 => ?_) (fun c_241 => ?_)
        · have c_241 : x2 = 19 := of_decide_eq_true c_241
          exact ih.2.2.2.2.2.2.2.2.2.2.2.2.2.2.2 (0)  
        · have c_241 : ¬ (x2 = 19) := of_decide_eq_false c_241
          refine ps_st (S' := (245, [(0, .ref m0), (1, .int x1), (2, .int x2)], [.int x2], M)) rfl rfl rfl ?_
          refine ps_st (S' := (247, [(0, .ref m0), (1, .int x1), (2, .int x2)], [.int 20, .int x2], M)) rfl rfl rfl ?_
          refine ps_if2 (S1 := (292, [(0, .ref m0), (1, .int x1)], [], M)) (S2 := (250, [(0, .ref m0), (1, .int x1), (2, .int x2)], [], M)) rfl rfl rfl (fun c_247 => ?_) (fun c_247 => ?_)
          · have c_247 : x2 = 20 := of_decide_eq_true c_247
            exact ih.2.2.2.2.2.2.2.2.2.2.2.2.2.2.2 (0)  
          · have c_247 : ¬ (x2 = 20) := of_decide_eq_false c_247
            refine ps_st (S' := (251, [(0, .ref m0), (1, .int x1), (2, .int x2)], [.int x2], M)) rfl rfl rfl ?_
            refine ps_st (S' := (254, [(0, .ref m0), (1, .int x1), (2, .int x2)], [.int 178, .int x2], M)) rfl rfl rfl ?_
            refine ps_if2 (S1 := (264, [(0, .ref m0), (1, .int x1), (2, .int x2)], [], M)) (S2 := (257, [(0, .ref m0), (1, .int x1), (2, .int x2)], [], M)) rfl rfl rfl (fun c_254 => ?_) (fun c_254 => ?_)
            · have c_254 : x2 < 178 := of_decide_eq_true c_254
              exact ih.2.2.2.2.2.2.2.2.2.2.2.2.2.2.1 (0)  
            · have c_254 : ¬ (x2 < 178) := of_decide_eq_false c_254
              refine ps_st (S' := (258, [(0, .ref m0), (1, .int x1), (2, .int x2)], [.int x2], M)) rfl rfl rfl ?_
              refine ps_st (S' := (261, [(0, .ref m0), (1, .int x1), (2, .int x2)], [.int 187, .int x2], M)) rfl rfl rfl ?_
              refine ps_if2 (S1 := (292, [(0, .ref m0), (1, .int x1)], [], M)) (S2 := (264, [(0, .ref m0), (1, .int x1), (2, .int x2)], [], M)) rfl rfl rfl (fun c_261 => ?_) (fun c_261 => ?_)
              · have c_261 : x2 ≤ 187 := of_decide_eq_true c_261
                exact ih.2.2.2.2.2.2.2.2.2.2.2.2.2.2.2 (0)  
              · have c_261 : ¬ (x2 ≤ 187) := of_decide_eq_false c_261
                exact ih.2.2.2.2.2.2.2.2.2.2.2.2.2.2.1 (0)  
      · skip
        intro u9
        refine ps_st1 (S' := (265, [(0, .ref m0), (1, .int x1), (2, .int x2)], [.int x2], M)) rfl rfl rfl ?_
        refine ps_st (S' := (268, [(0, .ref m0), (1, .int x1), (2, .int x2)], [.int 189, .int x2], M)) rfl rfl rfl ?_
        refine ps_if2 (S1 := (292, [(0, .ref m0), (1, .int x1)], [], M)) (S2 := (271, [(0, .ref m0), (1, .int x1), (2, .int x2)], [], M)) rfl rfl rfl (fun c_268 => ?_) (fun c_268 => ?_)
        · have c_268 : x2 = 189 := of_decide_eq_true c_268
          exact ih.2.2.2.2.2.2.2.2.2.2.2.2.2.2.2 (0)  
        · have c_268 : ¬ (x2 = 189) := of_decide_eq_false c_268
          refine ps_st (S' := (272, [(0, .ref m0), (1, .int x1), (2, .int x2)], [.int x2], M)) rfl rfl rfl ?_
          refine ps_st (S' := (275, [(0, .ref m0), (1, .int x1), (2, .int x2)], [.int 192, .int x2], M)) rfl rfl rfl ?_
          refine ps_if2 (S1 := (292, [(0, .ref m0), (1, .int x1)], [], M)) (S2 := (278, [(0, .ref m0), (1, .int x1), (2, .int x2)], [], M)) rfl rfl rfl (fun c_275 => ?_) (fun c_275 => ?_)
          · have c_275 : x2 = 192 := of_decide_eq_true c_275
            exact ih.2.2.2.2.2.2.2.2.2.2.2.2.2.2.2 (0)  
          · have c_275 : ¬ (x2 = 192) := of_decide_eq_false c_275
            refine ps_st (S' := (279, [(0, .ref m0), (1, .int x1), (2, .int x2)], [.int x2], M)) rfl rfl rfl ?_
            refine ps_st (S' := (282, [(0, .ref m0), (1, .int x1), (2, .int x2)], [.int 193, .int x2], M)) rfl rfl rfl ?_
            refine ps_if2 (S1 := (292, [(0, .ref m0), (1, .int x1)], [], M)) (S2 := (285, [(0, .ref m0), (1, .int x1), (2, .int x2)], [], M)) rfl rfl rfl (fun c_282 => ?_) (fun c_282 => ?_)
            · have c_282 : x2 = 193 := of_decide_eq_true c_282
              exact ih.2.2.2.2.2.2.2.2.2.2.2.2.2.2.2 (0)  
            · have c_282 : ¬ (x2 = 193) := of_decide_eq_false c_282
              refine ps_st (S' := (286, [(0, .ref m0), (1, .int x1), (2, .int x2)], [.int x2], M)) rfl rfl rfl ?_
              refine ps_st (S' := (289, [(0, .ref m0), (1, .int x1), (2, .int x2)], [.int 197, .int x2], M)) rfl rfl rfl ?_
              refine ps_if2 (S1 := (300, [(0, .ref m0), (1, .int x1), (2, .int x2)], [], M)) (S2 := (292, [(0, .ref m0), (1, .int x1)], [], M)) rfl rfl rfl (fun c_289 => ?_) (fun c_289 => ?_)
              · have c_289 : ¬ x2 = 197 := of_decide_eq_true c_289
                refine ps_st (S' := (301, [(0, .ref m0), (1, .int x1), (2, .int x2)], [.int 0], M)) rfl rfl rfl ?_
                exact ps_ret rfl rfl (⟨_, rfl, rfl⟩)
              · have c_289 : ¬ (¬ x2 = 197) := of_decide_eq_false c_289
                exact ih.2.2.2.2.2.2.2.2.2.2.2.2.2.2.2 (0)  
      · skip
        intro u9
        refine ps_st1 (S' := (293, [(0, .ref m0), (1, .int x1)], [.ref m0], M)) rfl rfl rfl ?_
        refine ps_st (S' := (294, [(0, .ref m0), (1, .int x1)], [.int x1, .ref m0], M)) rfl rfl rfl ?_
        refine ps_st (S' := (295, [(0, .ref m0), (1, .int x1)], [.int 1, .int x1, .ref m0], M)) rfl rfl rfl ?_
        refine ps_st (S' := (296, [(0, .ref m0), (1, .int x1)], [.int (x1 + 1), .ref m0], M)) rfl rfl rfl ?_
        refine pl_call (a := [.ref m0, .int (x1 + 1)]) (rest := []) rfl rfl rfl (rd_b2U (x1 := (x1 + 1)) (a49 := a49) (a77 := a77) hR hi49 hi77) (fun v41 M42 q43 => ?_)
        obtain ⟨x44, rfl, rfl⟩ := q43
        show pl _ _ _ (299, [(0, .ref m0), (1, .int x1)], [.int x44], M) _
        exact ps_reti rfl (⟨_, rfl, rfl⟩)
  refine ps_st (S' := (1, [(0, .ref m0), (1, .int x1), (2, .int x2)], [.int x2], M)) rfl rfl rfl ?_
  refine ps_st (S' := (4, [(0, .ref m0), (1, .int x1), (2, .int x2)], [.int 196, .int x2], M)) rfl rfl rfl ?_
  refine ps_if2 (S1 := (15, [(0, .ref m0), (1, .int x1), (2, .int x2)], [], M)) (S2 := (7, [(0, .ref m0), (1, .int x1), (2, .int x2)], [], M)) rfl rfl rfl (fun c_4 => ?_) (fun c_4 => ?_)
  · have c_4 : ¬ x2 = 196 := of_decide_eq_true c_4
    exact (LL kf).1 (0)  
  · have c_4 : ¬ (¬ x2 = 196) := of_decide_eq_false c_4
    refine ps_st (S' := (8, [(0, .ref m0), (1, .int x1), (2, .int x2)], [.ref m0], M)) rfl rfl rfl ?_
    refine ps_st (S' := (9, [(0, .ref m0), (1, .int x1), (2, .int x2)], [.int x1, .ref m0], M)) rfl rfl rfl ?_
    refine ps_st (S' := (10, [(0, .ref m0), (1, .int x1), (2, .int x2)], [.int 2, .int x1, .ref m0], M)) rfl rfl rfl ?_
    refine ps_st (S' := (11, [(0, .ref m0), (1, .int x1), (2, .int x2)], [.int (x1 + 2), .ref m0], M)) rfl rfl rfl ?_
    refine pl_call (a := [.ref m0, .int (x1 + 2)]) (rest := []) rfl rfl rfl (rd_b2U (x1 := (x1 + 2)) (a49 := a49) (a77 := a77) hR hi49 hi77) (fun v45 M46 q47 => ?_)
    obtain ⟨x48, rfl, rfl⟩ := q47
    show pl _ _ _ (14, [(0, .ref m0), (1, .int x1), (2, .int x2)], [.int x48], M) _
    exact ps_reti rfl (⟨_, rfl, rfl⟩)
set_option maxHeartbeats 2000000 in
theorem rd_secondU {g : xe_G} {m0 : Nat} {q : Nat → Nat} {z : Nat × Nat} {I : rI} {R : rR} {M : mi_H} {x1 x2 a49 a77 : Int32} (hR : RS g m0 q z I R M) (hi49 : I 49 = some a49) (hi77 : I 77 = some a77)   : pt (mT g) 241 [.ref m0, .int x1, .int x2] M (fun v M' => (∃ (x : Int32), v = some (.int x) ∧ M = M')) := by
  refine pt_in (b := mb_241 g) rfl (fun kf => ?_)
  show pl (mT g) kf (mb_241 g).2 (0, [(0, .ref m0), (1, .int x1), (2, .int x2)], [], M) _
  refine ps_st (S' := (1, [(0, .ref m0), (1, .int x1), (2, .int x2)], [.int x2], M)) rfl rfl rfl ?_
  refine ps_st (S' := (4, [(0, .ref m0), (1, .int x1), (2, .int x2)], [.int 196, .int x2], M)) rfl rfl rfl ?_
  refine ps_if2 (S1 := (32, [(0, .ref m0), (1, .int x1), (2, .int x2)], [], M)) (S2 := (7, [(0, .ref m0), (1, .int x1), (2, .int x2)], [], M)) rfl rfl rfl (fun c_4 => ?_) (fun c_4 => ?_)
  · have c_4 : ¬ x2 = 196 := of_decide_eq_true c_4
    refine ps_st (S' := (33, [(0, .ref m0), (1, .int x1), (2, .int x2)], [.int x2], M)) rfl rfl rfl ?_
    refine ps_st (S' := (36, [(0, .ref m0), (1, .int x1), (2, .int x2)], [.int 132, .int x2], M)) rfl rfl rfl ?_
    refine ps_if2 (S1 := (48, [(0, .ref m0), (1, .int x1), (2, .int x2)], [], M)) (S2 := (39, [(0, .ref m0), (1, .int x1), (2, .int x2)], [], M)) rfl rfl rfl (fun c_36 => ?_) (fun c_36 => ?_)
    · have c_36 : ¬ x2 = 132 := of_decide_eq_true c_36
      refine ps_st (S' := (49, [(0, .ref m0), (1, .int x1), (2, .int x2)], [.int x2], M)) rfl rfl rfl ?_
      refine ps_st (S' := (52, [(0, .ref m0), (1, .int x1), (2, .int x2)], [.int 170, .int x2], M)) rfl rfl rfl ?_
      refine ps_if2 (S1 := (67, [(0, .ref m0), (1, .int x1), (2, .int x2)], [], M)) (S2 := (55, [(0, .ref m0), (1, .int x1), (2, .int x2)], [], M)) rfl rfl rfl (fun c_52 => ?_) (fun c_52 => ?_)
      · have c_52 : ¬ x2 = 170 := of_decide_eq_true c_52
        refine ps_st (S' := (68, [(0, .ref m0), (1, .int x1), (2, .int x2)], [.int x2], M)) rfl rfl rfl ?_
        refine ps_st (S' := (71, [(0, .ref m0), (1, .int x1), (2, .int x2)], [.int 197, .int x2], M)) rfl rfl rfl ?_
        refine ps_if2 (S1 := (84, [(0, .ref m0), (1, .int x1), (2, .int x2)], [], M)) (S2 := (74, [(0, .ref m0), (1, .int x1), (2, .int x2)], [], M)) rfl rfl rfl (fun c_71 => ?_) (fun c_71 => ?_)
        · have c_71 : ¬ x2 = 197 := of_decide_eq_true c_71
          refine ps_st (S' := (85, [], [.int 0], M)) rfl rfl rfl ?_
          exact ps_ret rfl rfl (⟨_, rfl, rfl⟩)
        · have c_71 : ¬ (¬ x2 = 197) := of_decide_eq_false c_71
          refine ps_st (S' := (75, [(0, .ref m0), (1, .int x1), (2, .int x2)], [.ref m0], M)) rfl rfl rfl ?_
          refine ps_st (S' := (76, [(0, .ref m0), (1, .int x1), (2, .int x2)], [.int x1, .ref m0], M)) rfl rfl rfl ?_
          refine ps_st (S' := (77, [(0, .ref m0), (1, .int x1), (2, .int x2)], [.int 3, .int x1, .ref m0], M)) rfl rfl rfl ?_
          refine ps_st (S' := (78, [(0, .ref m0), (1, .int x1), (2, .int x2)], [.int (x1 + 3), .ref m0], M)) rfl rfl rfl ?_
          refine pl_call (a := [.ref m0, .int (x1 + 3)]) (rest := []) rfl rfl rfl (rd_b1U (x1 := (x1 + 3)) (a77 := a77) hR hi77) (fun v1 M2 q3 => ?_)
          obtain ⟨x4, rfl, rfl⟩ := q3
          show pl _ _ _ (81, [(0, .ref m0), (1, .int x1), (2, .int x2)], [.int x4], M) _
          refine ps_st (S' := (85, [], [.int x4], M)) rfl rfl rfl ?_
          exact ps_reti rfl (⟨_, rfl, rfl⟩)
      · have c_52 : ¬ (¬ x2 = 170) := of_decide_eq_false c_52
        refine ps_st (S' := (56, [(0, .ref m0), (1, .int x1), (2, .int x2)], [.ref m0], M)) rfl rfl rfl ?_
        refine ps_st (S' := (57, [(0, .ref m0), (1, .int x1), (2, .int x2)], [.int x1, .ref m0], M)) rfl rfl rfl ?_
        refine pl_call (a := [.int x1]) (rest := [.ref m0]) rfl rfl rfl (rd_padU (x1 := x1) hR) (fun v5 M6 q7 => ?_)
        obtain ⟨x8, rfl, rfl⟩ := q7
        show pl _ _ _ (60, [(0, .ref m0), (1, .int x1), (2, .int x2)], [.int x8, .ref m0], M) _
        refine ps_st (S' := (62, [(0, .ref m0), (1, .int x1), (2, .int x2)], [.int 8, .int x8, .ref m0], M)) rfl rfl rfl ?_
        refine ps_st (S' := (63, [(0, .ref m0), (1, .int x1), (2, .int x2)], [.int (x8 + 8), .ref m0], M)) rfl rfl rfl ?_
        refine pl_call (a := [.ref m0, .int (x8 + 8)]) (rest := []) rfl rfl rfl (rd_b4U (x1 := (x8 + 8)) (a49 := a49) (a77 := a77) hR hi49 hi77) (fun v9 M10 q11 => ?_)
        obtain ⟨x12, rfl, rfl⟩ := q11
        show pl _ _ _ (66, [(0, .ref m0), (1, .int x1), (2, .int x2)], [.int x12], M) _
        exact ps_reti rfl (⟨_, rfl, rfl⟩)
    · have c_36 : ¬ (¬ x2 = 132) := of_decide_eq_false c_36
      refine ps_st (S' := (40, [(0, .ref m0), (1, .int x1), (2, .int x2)], [.ref m0], M)) rfl rfl rfl ?_
      refine ps_st (S' := (41, [(0, .ref m0), (1, .int x1), (2, .int x2)], [.int x1, .ref m0], M)) rfl rfl rfl ?_
      refine ps_st (S' := (42, [(0, .ref m0), (1, .int x1), (2, .int x2)], [.int 2, .int x1, .ref m0], M)) rfl rfl rfl ?_
      refine ps_st (S' := (43, [(0, .ref m0), (1, .int x1), (2, .int x2)], [.int (x1 + 2), .ref m0], M)) rfl rfl rfl ?_
      refine pl_call (a := [.ref m0, .int (x1 + 2)]) (rest := []) rfl rfl rfl (rd_b1U (x1 := (x1 + 2)) (a77 := a77) hR hi77) (fun v13 M14 q15 => ?_)
      obtain ⟨x16, rfl, rfl⟩ := q15
      show pl _ _ _ (46, [(0, .ref m0), (1, .int x1), (2, .int x2)], [.int x16], M) _
      refine ps_st (S' := (47, [(0, .ref m0), (1, .int x1), (2, .int x2)], [.int (x16.toInt8.toInt32)], M)) rfl rfl rfl ?_
      exact ps_reti rfl (⟨_, rfl, rfl⟩)
  · have c_4 : ¬ (¬ x2 = 196) := of_decide_eq_false c_4
    refine ps_st (S' := (8, [(0, .ref m0), (1, .int x1), (2, .int x2)], [.ref m0], M)) rfl rfl rfl ?_
    refine ps_st (S' := (9, [(0, .ref m0), (1, .int x1), (2, .int x2)], [.int x1, .ref m0], M)) rfl rfl rfl ?_
    refine ps_st (S' := (10, [(0, .ref m0), (1, .int x1), (2, .int x2)], [.int 1, .int x1, .ref m0], M)) rfl rfl rfl ?_
    refine ps_st (S' := (11, [(0, .ref m0), (1, .int x1), (2, .int x2)], [.int (x1 + 1), .ref m0], M)) rfl rfl rfl ?_
    refine pl_call (a := [.ref m0, .int (x1 + 1)]) (rest := []) rfl rfl rfl (rd_b1U (x1 := (x1 + 1)) (a77 := a77) hR hi77) (fun v17 M18 q19 => ?_)
    obtain ⟨x20, rfl, rfl⟩ := q19
    show pl _ _ _ (14, [(0, .ref m0), (1, .int x1), (2, .int x2)], [.int x20], M) _
    refine ps_st (S' := (17, [(0, .ref m0), (1, .int x1), (2, .int x2)], [.int 132, .int x20], M)) rfl rfl rfl ?_
    refine ps_if2 (S1 := (30, [(0, .ref m0), (1, .int x1), (2, .int x2)], [], M)) (S2 := (20, [(0, .ref m0), (1, .int x1), (2, .int x2)], [], M)) rfl rfl rfl (fun c_17 => ?_) (fun c_17 => ?_)
    · have c_17 : ¬ x20 = 132 := of_decide_eq_true c_17
      refine ps_st (S' := (31, [], [.int 0], M)) rfl rfl rfl ?_
      exact ps_ret rfl rfl (⟨_, rfl, rfl⟩)
    · have c_17 : ¬ (¬ x20 = 132) := of_decide_eq_false c_17
      refine ps_st (S' := (21, [(0, .ref m0), (1, .int x1), (2, .int x2)], [.ref m0], M)) rfl rfl rfl ?_
      refine ps_st (S' := (22, [(0, .ref m0), (1, .int x1), (2, .int x2)], [.int x1, .ref m0], M)) rfl rfl rfl ?_
      refine ps_st (S' := (23, [(0, .ref m0), (1, .int x1), (2, .int x2)], [.int 4, .int x1, .ref m0], M)) rfl rfl rfl ?_
      refine ps_st (S' := (24, [(0, .ref m0), (1, .int x1), (2, .int x2)], [.int (x1 + 4), .ref m0], M)) rfl rfl rfl ?_
      refine pl_call (a := [.ref m0, .int (x1 + 4)]) (rest := []) rfl rfl rfl (rd_s2U (x1 := (x1 + 4)) (a49 := a49) (a77 := a77) hR hi49 hi77) (fun v21 M22 q23 => ?_)
      obtain ⟨x24, rfl, rfl⟩ := q23
      show pl _ _ _ (27, [(0, .ref m0), (1, .int x1), (2, .int x2)], [.int x24], M) _
      refine ps_st (S' := (31, [], [.int x24], M)) rfl rfl rfl ?_
      exact ps_reti rfl (⟨_, rfl, rfl⟩)
set_option maxHeartbeats 2000000 in
theorem rd_waysU {g : xe_G} {m0 : Nat} {q : Nat → Nat} {z : Nat × Nat} {I : rI} {R : rR} {M : mi_H} {x1 a49 a77 : Int32} (hR : RS g m0 q z I R M) (hi49 : I 49 = some a49) (hi77 : I 77 = some a77)   : pt (mT g) 254 [.ref m0, .int x1] M (fun v M' => (∃ (x : Int32), v = some (.int x) ∧ M = M')) := by
  refine pt_in (b := mb_254 g) rfl (fun kf => ?_)
  show pl (mT g) kf (mb_254 g).2 (0, [(0, .ref m0), (1, .int x1)], [], M) _
  refine ps_st (S' := (1, [(0, .ref m0), (1, .int x1)], [.int x1], M)) rfl rfl rfl ?_
  refine pl_call (a := [.int x1]) (rest := []) rfl rfl rfl (rd_padU (x1 := x1) hR) (fun v1 M2 q3 => ?_)
  obtain ⟨x4, rfl, rfl⟩ := q3
  show pl _ _ _ (4, [(0, .ref m0), (1, .int x1)], [.int x4], M) _
  refine ps_st (S' := (5, [(2, .int x4), (0, .ref m0), (1, .int x1)], [], M)) rfl rfl rfl ?_
  refine ps_st (S' := (6, [(2, .int x4), (0, .ref m0), (1, .int x1)], [.int 1], M)) rfl rfl rfl ?_
  refine ps_st (S' := (7, [(2, .int x4), (0, .ref m0), (1, .int x1)], [.ref m0, .int 1], M)) rfl rfl rfl ?_
  refine ps_st (S' := (8, [(2, .int x4), (0, .ref m0), (1, .int x1)], [.int x1, .ref m0, .int 1], M)) rfl rfl rfl ?_
  refine pl_call (a := [.ref m0, .int x1]) (rest := [.int 1]) rfl rfl rfl (rd_b1U (x1 := x1) (a77 := a77) hR hi77) (fun v5 M6 q7 => ?_)
  obtain ⟨x8, rfl, rfl⟩ := q7
  show pl _ _ _ (11, [(2, .int x4), (0, .ref m0), (1, .int x1)], [.int x8, .int 1], M) _
  refine ps_st (S' := (14, [(2, .int x4), (0, .ref m0), (1, .int x1)], [.int 170, .int x8, .int 1], M)) rfl rfl rfl ?_
  refine ps_if2 (S1 := (38, [(2, .int x4), (0, .ref m0), (1, .int x1)], [.int 1], M)) (S2 := (17, [(2, .int x4), (0, .ref m0), (1, .int x1)], [.int 1], M)) rfl rfl rfl (fun c_14 => ?_) (fun c_14 => ?_)
  · have c_14 : ¬ x8 = 170 := of_decide_eq_true c_14
    refine ps_st (S' := (39, [(2, .int x4), (0, .ref m0), (1, .int x1)], [.ref m0, .int 1], M)) rfl rfl rfl ?_
    refine ps_st (S' := (40, [(2, .int x4), (0, .ref m0), (1, .int x1)], [.int x4, .ref m0, .int 1], M)) rfl rfl rfl ?_
    refine ps_st (S' := (41, [(2, .int x4), (0, .ref m0), (1, .int x1)], [.int 4, .int x4, .ref m0, .int 1], M)) rfl rfl rfl ?_
    refine ps_st (S' := (42, [(2, .int x4), (0, .ref m0), (1, .int x1)], [.int (x4 + 4), .ref m0, .int 1], M)) rfl rfl rfl ?_
    refine pl_call (a := [.ref m0, .int (x4 + 4)]) (rest := [.int 1]) rfl rfl rfl (rd_b4U (x1 := (x4 + 4)) (a49 := a49) (a77 := a77) hR hi49 hi77) (fun v9 M10 q11 => ?_)
    obtain ⟨x12, rfl, rfl⟩ := q11
    show pl _ _ _ (45, [], [.int x12, .int 1], M) _
    refine ps_st (S' := (46, [], [.int (1 + x12)], M)) rfl rfl rfl ?_
    exact ps_reti rfl (⟨_, rfl, rfl⟩)
  · have c_14 : ¬ (¬ x8 = 170) := of_decide_eq_false c_14
    refine ps_st (S' := (18, [(2, .int x4), (0, .ref m0), (1, .int x1)], [.ref m0, .int 1], M)) rfl rfl rfl ?_
    refine ps_st (S' := (19, [(2, .int x4), (0, .ref m0), (1, .int x1)], [.int x4, .ref m0, .int 1], M)) rfl rfl rfl ?_
    refine ps_st (S' := (21, [(2, .int x4), (0, .ref m0), (1, .int x1)], [.int 8, .int x4, .ref m0, .int 1], M)) rfl rfl rfl ?_
    refine ps_st (S' := (22, [(2, .int x4), (0, .ref m0), (1, .int x1)], [.int (x4 + 8), .ref m0, .int 1], M)) rfl rfl rfl ?_
    refine pl_call (a := [.ref m0, .int (x4 + 8)]) (rest := [.int 1]) rfl rfl rfl (rd_b4U (x1 := (x4 + 8)) (a49 := a49) (a77 := a77) hR hi49 hi77) (fun v13 M14 q15 => ?_)
    obtain ⟨x16, rfl, rfl⟩ := q15
    show pl _ _ _ (25, [(2, .int x4), (0, .ref m0), (1, .int x1)], [.int x16, .int 1], M) _
    refine ps_st (S' := (26, [(2, .int x4), (0, .ref m0), (1, .int x1)], [.ref m0, .int x16, .int 1], M)) rfl rfl rfl ?_
    refine ps_st (S' := (27, [(2, .int x4), (0, .ref m0), (1, .int x1)], [.int x4, .ref m0, .int x16, .int 1], M)) rfl rfl rfl ?_
    refine ps_st (S' := (28, [(2, .int x4), (0, .ref m0), (1, .int x1)], [.int 4, .int x4, .ref m0, .int x16, .int 1], M)) rfl rfl rfl ?_
    refine ps_st (S' := (29, [(2, .int x4), (0, .ref m0), (1, .int x1)], [.int (x4 + 4), .ref m0, .int x16, .int 1], M)) rfl rfl rfl ?_
    refine pl_call (a := [.ref m0, .int (x4 + 4)]) (rest := [.int x16, .int 1]) rfl rfl rfl (rd_b4U (x1 := (x4 + 4)) (a49 := a49) (a77 := a77) hR hi49 hi77) (fun v17 M18 q19 => ?_)
    obtain ⟨x20, rfl, rfl⟩ := q19
    show pl _ _ _ (32, [(2, .int x4), (0, .ref m0), (1, .int x1)], [.int x20, .int x16, .int 1], M) _
    refine ps_st (S' := (33, [(2, .int x4), (0, .ref m0), (1, .int x1)], [.int (x16 - x20), .int 1], M)) rfl rfl rfl ?_
    refine ps_st (S' := (34, [(2, .int x4), (0, .ref m0), (1, .int x1)], [.int 1, .int (x16 - x20), .int 1], M)) rfl rfl rfl ?_
    refine ps_st (S' := (35, [(2, .int x4), (0, .ref m0), (1, .int x1)], [.int ((x16 - x20) + 1), .int 1], M)) rfl rfl rfl ?_
    refine ps_st (S' := (45, [], [.int ((x16 - x20) + 1), .int 1], M)) rfl rfl rfl ?_
    refine ps_st (S' := (46, [], [.int (1 + ((x16 - x20) + 1))], M)) rfl rfl rfl ?_
    exact ps_reti rfl (⟨_, rfl, rfl⟩)
set_option maxHeartbeats 2000000 in
theorem rd_instrV {g : xe_G} {m0 : Nat} {q : Nat → Nat} {z : Nat × Nat} {I : rI} {R : rR} {M : mi_H} {n : Nat} {f : Nat → Int32} {tx : List (List Nat)} {cN : Nat} {A : Nat → Nat} {N mj : Nat} {E : List (Nat × Nat)} {n2 s9 k : Nat} {B : List Nat} {kk w : Int32} (hR : RS g m0 q z I R M) (hi51 : I 51 = some 0) (hi52 : I 52 = some (nI N)) (hi53 : I 53 = some (nI mj)) (hi9 : I 9 = some (nI s9)) (hi18 : I 18 = some (nI n2)) (hi26 : I 26 = some (nI B.length)) (hi49 : I 49 = some 0) (hF : FK n f I R) (hY : SYT tx cN A I R) (hP : RPV f n E tx N I R) (hQ : MQX f n E B 0 B.length I R) (hU : CUZ f n E mj B I R) (hEP : EP f n E) (hN : N < 65536) (hmj : mj < 65536) (hs9 : s9 < tx.length ∧ tx.getD s9 [] = ltx 14) (hCP : CP f n E) (hPF : PF f n E) (hn2 : n2 ≤ 65540) (hk : k < B.length) (hBl : B.length < 65536) (hc0 : ¬ cpM f n E B k = 0) (hci : CIN f n (cpM f n E B k)) (hw0 : ¬ w < 0) (hw4 : w ≤ 4) : pt (mT g) 215 [.ref m0, .int (nI k), .int kk, .int w] M (fun v M' => (∃ (x : Int32) (I' : rI) (R' : rR), v = some (.int x) ∧ RS g m0 q z I' R' M' ∧ eqI [0, 74, 75, 76, 77, 78, 79] I I' ∧ eqR [80, 81] R R' ∧ I' 0 = some 0 ∧ CUZ f n E mj B I' R')) := by
  refine pt_in (b := mb_215 g) rfl (fun kf => ?_)
  show pl (mT g) kf (mb_215 g).2 (0, [(0, .ref m0), (1, .int (nI k)), (2, .int kk), (3, .int w)], [], M) _
  have hEI : eqI [0, 74, 75, 76, 77, 78, 79] I I := eqI.rf
  have hER : eqR [80, 81] R R := eqR.rf
  have hn := hF.1
  refine ps_st (S' := (1, [(0, .ref m0), (1, .int (nI k)), (2, .int kk), (3, .int w)], [.ref m0], M)) rfl rfl rfl ?_
  refine ps_st (S' := (2, [(0, .ref m0), (1, .int (nI k)), (2, .int kk), (3, .int w)], [.int 0, .ref m0], M)) rfl rfl rfl ?_
  refine pr_put (j := 0) rfl hR rfl (fun M1 I2 hR3 hi4 hI5 => ?_)
  have hi6 := (hI5 51 (by decide)).trans hi51
  have hi7 := (hI5 52 (by decide)).trans hi52
  have hi8 := (hI5 53 (by decide)).trans hi53
  have hi10 := (hI5 9 (by decide)).trans hi9
  have hi11 := (hI5 18 (by decide)).trans hi18
  have hi12 := (hI5 26 (by decide)).trans hi26
  have hi13 := (hI5 49 (by decide)).trans hi49
  have hF_14 := hF.mono (pIx hI5 (by decide)) (fun _ _ => rfl)
  have hY_15 := hY.mono (pIx hI5 (by decide)) (fun _ _ => rfl)
  have hP_16 := hP.mono (pIx hI5 (by decide)) (fun _ _ => rfl)
  have hQ_17 := hQ.mono (pIx hI5 (by decide)) (fun _ _ => rfl)
  have hU_18 := hU.mono (pIx hI5 (by decide)) (fun _ _ => rfl)
  have hEI19 := hEI.put hI5 (by decide)
  show pl _ _ _ (5, [(0, .ref m0), (1, .int (nI k)), (2, .int kk), (3, .int w)], [], M1) _
  refine ps_st (S' := (6, [(0, .ref m0), (1, .int (nI k)), (2, .int kk), (3, .int w)], [.int w], M1)) rfl rfl rfl ?_
  refine ps_if (S1 := (14, [(0, .ref m0)], [], M1)) (S2 := (9, [(0, .ref m0), (1, .int (nI k)), (2, .int kk), (3, .int w)], [], M1)) rfl rfl rfl (fun c_6 => ?_) (fun c_6 => ?_)
  · exact absurd (of_decide_eq_true c_6) (hw0)
  refine ps_st (S' := (10, [(0, .ref m0), (1, .int (nI k)), (2, .int kk), (3, .int w)], [.int w], M1)) rfl rfl rfl ?_
  refine ps_st (S' := (11, [(0, .ref m0), (1, .int (nI k)), (2, .int kk), (3, .int w)], [.int 4, .int w], M1)) rfl rfl rfl ?_
  refine ps_if2 (S1 := (19, [(0, .ref m0), (1, .int (nI k)), (2, .int kk), (3, .int w)], [], M1)) (S2 := (14, [(0, .ref m0)], [], M1)) rfl rfl rfl (fun c_11 => ?_) (fun c_11 => ?_)
  rotate_left
  · exact absurd (hw4) (of_decide_eq_false c_11)
  refine ps_st (S' := (20, [(0, .ref m0), (1, .int (nI k)), (2, .int kk), (3, .int w)], [.ref m0], M1)) rfl rfl rfl ?_
  refine ps_st (S' := (21, [(0, .ref m0), (1, .int (nI k)), (2, .int kk), (3, .int w)], [.int (nI k), .ref m0], M1)) rfl rfl rfl ?_
  refine pl_call (a := [.ref m0, .int (nI k)]) (rest := []) rfl rfl rfl (rd_noCodeV (f := f) (n := n) (n2 := n2) (k := k) (E := E) (B := B) hR3 hi11 hi12 hQ_17 (hn2) (hk) (hBl) (hc0) (by have := hci.1; have := hF.1; omega)) (fun v20 M21 q22 => ?_)
  obtain ⟨rfl, rfl⟩ := q22
  show pl _ _ _ (24, [(0, .ref m0), (1, .int (nI k)), (2, .int kk), (3, .int w)], [.int 0], M1) _
  refine ps_if (S1 := (47, [], [], M1)) (S2 := (27, [(0, .ref m0), (1, .int (nI k)), (2, .int kk), (3, .int w)], [], M1)) rfl rfl rfl (fun c_24 => ?_) (fun c_24 => ?_)
  · exact absurd (of_decide_eq_true c_24) (by decide)
  refine ps_st (S' := (28, [(0, .ref m0), (1, .int (nI k)), (2, .int kk), (3, .int w)], [.ref m0], M1)) rfl rfl rfl ?_
  refine ps_st (S' := (29, [(0, .ref m0), (1, .int (nI k)), (2, .int kk), (3, .int w)], [.int (nI k), .ref m0], M1)) rfl rfl rfl ?_
  have g23 := hQ_17 k hk
  rw [Nat.zero_add] at g23
  unfold MWc at g23
  refine pl_call (a := [.ref m0, .int (nI k)]) (rest := []) rfl rfl rfl (rd_cuts8 (n := n) (f := f) (tx := tx) (cN := cN) (A := A) (N := N) (mj := mj) (E := E) (cb := (cpM f n E B k + 14)) (L := (by4 f (cpM f n E B k + 10))) (ml := (by2 f (cpM f n E B k + 8))) (s9 := s9) (m := k) (B := B) hR3 hi6 hi7 hi8 hi10 hF_14 hY_15 hP_16 hU_18 (hEP) (hN) (hmj) (by2_lt _ _) (hs9) (hCP) (hPF) (by have := hci.1; omega) (⟨hci.2.1, by have := hci.2.2; omega⟩) (by omega) (by rw [g23.2.1.1.1, if_neg (show ¬ (mK f n E (B.getD k 0)).2.1 = 0 from hc0)]; rfl) (by rw [g23.2.1.1.2.1, if_neg (show ¬ (mK f n E (B.getD k 0)).2.1 = 0 from hc0)]; rfl) (by rw [g23.2.1.1.2.2.2.1, if_neg (show ¬ (mK f n E (B.getD k 0)).2.1 = 0 from hc0)]; rfl) (hBl) (hk) (⟨rfl, rfl, rfl⟩)) (fun v24 M25 q26 => ?_)
  rcases q26 with q26 | q26
  · skip
    obtain ⟨p27, I28, R29, q29_s, q29_l, rfl, hR30, hI31, hX32, hi33, hi34, hi35, hi36, hX_37⟩ := q26
    have hi38 := (hI31 51 (by decide)).trans hi6
    have hi39 := (hI31 52 (by decide)).trans hi7
    have hi40 := (hI31 53 (by decide)).trans hi8
    have hi41 := (hI31 9 (by decide)).trans hi10
    have hi42 := (hI31 18 (by decide)).trans hi11
    have hi43 := (hI31 26 (by decide)).trans hi12
    have hi44 := (hI31 49 (by decide)).trans hi13
    have hi45 := (hI31 0 (by decide)).trans hi4
    have hF_46 := hF_14.mono (cIx hI31 (by decide)) (cRx hX32 (by decide))
    have hY_47 := hY_15.mono (cIx hI31 (by decide)) (cRx hX32 (by decide))
    have hP_48 := hP_16.mono (cIx hI31 (by decide)) (cRx hX32 (by decide))
    have hQ_49 := hQ_17.mono (cIx hI31 (by decide)) (cRx hX32 (by decide))
    have hEI50 := hEI19.tr hI31 (by decide)
    have hER51 := hER.tr hX32 (by decide)
    show pl _ _ _ (32, [(0, .ref m0), (1, .int (nI k)), (2, .int kk), (3, .int w)], [.int 0], M25) _
    refine ps_if (S1 := (47, [], [], M25)) (S2 := (35, [(0, .ref m0), (1, .int (nI k)), (2, .int kk), (3, .int w)], [], M25)) rfl rfl rfl (fun c_32 => ?_) (fun c_32 => ?_)
    rotate_left
    · exact absurd (by decide) (of_decide_eq_false c_32)
    refine ps_st (S' := (48, [], [.int (-1)], M25)) rfl rfl rfl ?_
    exact ps_ret rfl rfl (⟨_, I28, R29, rfl, hR30, hEI50, hER51, hi45, Or.inr ⟨k, hk, hc0, hX_37⟩⟩)
  · skip
    obtain ⟨S52, I53, R54, q29_s, q29_l, rfl, hR55, hI56, hX57, hi58, hi59, hi60, hi61, hi62, hX_63, hW_64, hB_65⟩ := q26
    have hi66 := (hI56 51 (by decide)).trans hi6
    have hi67 := (hI56 52 (by decide)).trans hi7
    have hi68 := (hI56 53 (by decide)).trans hi8
    have hi69 := (hI56 9 (by decide)).trans hi10
    have hi70 := (hI56 18 (by decide)).trans hi11
    have hi71 := (hI56 26 (by decide)).trans hi12
    have hi72 := (hI56 49 (by decide)).trans hi13
    have hi73 := (hI56 0 (by decide)).trans hi4
    have hF_74 := hF_14.mono (cIx hI56 (by decide)) (cRx hX57 (by decide))
    have hY_75 := hY_15.mono (cIx hI56 (by decide)) (cRx hX57 (by decide))
    have hP_76 := hP_16.mono (cIx hI56 (by decide)) (cRx hX57 (by decide))
    have hQ_77 := hQ_17.mono (cIx hI56 (by decide)) (cRx hX57 (by decide))
    have hEI78 := hEI19.tr hI56 (by decide)
    have hER79 := hER.tr hX57 (by decide)
    show pl _ _ _ (32, [(0, .ref m0), (1, .int (nI k)), (2, .int kk), (3, .int w)], [.int 1], M25) _
    refine ps_if (S1 := (47, [], [], M25)) (S2 := (35, [(0, .ref m0), (1, .int (nI k)), (2, .int kk), (3, .int w)], [], M25)) rfl rfl rfl (fun c_32 => ?_) (fun c_32 => ?_)
    · exact absurd (of_decide_eq_true c_32) (by decide)
    refine ps_st (S' := (36, [(0, .ref m0), (1, .int (nI k)), (2, .int kk), (3, .int w)], [.int kk], M25)) rfl rfl rfl ?_
    refine ps_if (S1 := (47, [], [], M25)) (S2 := (39, [(0, .ref m0), (1, .int (nI k)), (2, .int kk), (3, .int w)], [], M25)) rfl rfl rfl (fun c_36 => ?_) (fun c_36 => ?_)
    · have c_36 : kk < 0 := of_decide_eq_true c_36
      refine ps_st (S' := (48, [], [.int (-1)], M25)) rfl rfl rfl ?_
      exact ps_ret rfl rfl (⟨_, I53, R54, rfl, hR55, hEI78, hER79, hi73, Or.inr ⟨k, hk, hc0, hX_63⟩⟩)
    · have c_36 : ¬ (kk < 0) := of_decide_eq_false c_36
      refine ps_st (S' := (40, [(0, .ref m0), (1, .int (nI k)), (2, .int kk), (3, .int w)], [.int kk], M25)) rfl rfl rfl ?_
      refine ps_st (S' := (41, [(0, .ref m0), (1, .int (nI k)), (2, .int kk), (3, .int w)], [.ref m0, .int kk], M25)) rfl rfl rfl ?_
      refine pr_int (j := 75) (S' := (44, [(0, .ref m0), (1, .int (nI k)), (2, .int kk), (3, .int w)], [.int (nI S52.length), .int kk], M25)) rfl hR55 rfl hi58 rfl ?_
      refine ps_if2 (S1 := (49, [(0, .ref m0), (1, .int (nI k)), (2, .int kk), (3, .int w)], [], M25)) (S2 := (47, [], [], M25)) rfl rfl rfl (fun c_44 => ?_) (fun c_44 => ?_)
      · have c_44 : kk < (nI S52.length) := of_decide_eq_true c_44
        refine ps_st (S' := (50, [(0, .ref m0), (1, .int (nI k)), (2, .int kk), (3, .int w)], [.ref m0], M25)) rfl rfl rfl ?_
        refine pr_ref (j := 80) (S' := (53, [(0, .ref m0), (1, .int (nI k)), (2, .int kk), (3, .int w)], [.ref (q 80)], M25)) rfl hR55 rfl rfl ?_
        refine ps_st (S' := (54, [(0, .ref m0), (1, .int (nI k)), (2, .int kk), (3, .int w)], [.int kk, .ref (q 80)], M25)) rfl rfl rfl ?_
        refine pr_ldu (a := 80) rfl hR55 rfl (fun y_54 i0_54 i1_54 hy_54 => ?_)
        show pl _ _ _ (55, [(0, .ref m0), (1, .int (nI k)), (2, .int kk), (3, .int w)], [.int y_54], M25) _
        refine ps_st (S' := (57, [(4, .int y_54), (0, .ref m0), (1, .int (nI k)), (2, .int kk), (3, .int w)], [], M25)) rfl rfl rfl ?_
        refine ps_st (S' := (58, [(4, .int y_54), (0, .ref m0), (1, .int (nI k)), (2, .int kk), (3, .int w)], [.ref m0], M25)) rfl rfl rfl ?_
        refine ps_st (S' := (60, [(4, .int y_54), (0, .ref m0), (1, .int (nI k)), (2, .int kk), (3, .int w)], [.int y_54, .ref m0], M25)) rfl rfl rfl ?_
        refine pl_call (a := [.ref m0, .int y_54]) (rest := []) rfl rfl rfl (rd_b1U (x1 := y_54) (a77 := (nI (cpM f n E B k + 14))) hR55 hi60) (fun v80 M81 q82 => ?_)
        obtain ⟨x83, rfl, rfl⟩ := q82
        show pl _ _ _ (63, [(4, .int y_54), (0, .ref m0), (1, .int (nI k)), (2, .int kk), (3, .int w)], [.int x83], M25) _
        refine ps_st (S' := (65, [(5, .int x83), (4, .int y_54), (0, .ref m0), (1, .int (nI k)), (2, .int kk), (3, .int w)], [], M25)) rfl rfl rfl ?_
        refine ps_st (S' := (66, [(5, .int x83), (4, .int y_54), (0, .ref m0), (1, .int (nI k)), (2, .int kk), (3, .int w)], [.int w], M25)) rfl rfl rfl ?_
        refine ps_if (S1 := (78, [(5, .int x83), (4, .int y_54), (0, .ref m0), (1, .int (nI k)), (2, .int kk), (3, .int w)], [], M25)) (S2 := (69, [(5, .int x83), (4, .int y_54), (0, .ref m0), (1, .int (nI k)), (2, .int kk), (3, .int w)], [], M25)) rfl rfl rfl (fun c_66 => ?_) (fun c_66 => ?_)
        · have c_66 : ¬ w = 0 := of_decide_eq_true c_66
          refine ps_st (S' := (79, [(5, .int x83), (4, .int y_54), (0, .ref m0), (1, .int (nI k)), (2, .int kk), (3, .int w)], [.int w], M25)) rfl rfl rfl ?_
          refine ps_st (S' := (80, [(5, .int x83), (4, .int y_54), (0, .ref m0), (1, .int (nI k)), (2, .int kk), (3, .int w)], [.int 1, .int w], M25)) rfl rfl rfl ?_
          refine ps_if2 (S1 := (86, [(5, .int x83), (4, .int y_54), (0, .ref m0), (1, .int (nI k)), (2, .int kk), (3, .int w)], [], M25)) (S2 := (83, [(5, .int x83), (4, .int y_54), (0, .ref m0), (1, .int (nI k)), (2, .int kk), (3, .int w)], [], M25)) rfl rfl rfl (fun c_80 => ?_) (fun c_80 => ?_)
          · have c_80 : ¬ w = 1 := of_decide_eq_true c_80
            refine ps_st (S' := (87, [(5, .int x83), (4, .int y_54), (0, .ref m0), (1, .int (nI k)), (2, .int kk), (3, .int w)], [.int w], M25)) rfl rfl rfl ?_
            refine ps_st (S' := (88, [(5, .int x83), (4, .int y_54), (0, .ref m0), (1, .int (nI k)), (2, .int kk), (3, .int w)], [.int 4, .int w], M25)) rfl rfl rfl ?_
            refine ps_if2 (S1 := (118, [(5, .int x83), (4, .int y_54), (0, .ref m0), (1, .int (nI k)), (2, .int kk), (3, .int w)], [], M25)) (S2 := (91, [(5, .int x83), (4, .int y_54), (0, .ref m0), (1, .int (nI k)), (2, .int kk), (3, .int w)], [], M25)) rfl rfl rfl (fun c_88 => ?_) (fun c_88 => ?_)
            · have c_88 : ¬ w = 4 := of_decide_eq_true c_88
              refine ps_st (S' := (119, [(5, .int x83), (4, .int y_54), (0, .ref m0), (1, .int (nI k)), (2, .int kk), (3, .int w)], [.int w], M25)) rfl rfl rfl ?_
              refine ps_st (S' := (120, [(5, .int x83), (4, .int y_54), (0, .ref m0), (1, .int (nI k)), (2, .int kk), (3, .int w)], [.int 2, .int w], M25)) rfl rfl rfl ?_
              refine ps_if2 (S1 := (134, [(5, .int x83), (4, .int y_54), (0, .ref m0), (1, .int (nI k)), (2, .int kk), (3, .int w)], [], M25)) (S2 := (123, [(5, .int x83), (4, .int y_54), (0, .ref m0), (1, .int (nI k)), (2, .int kk), (3, .int w)], [], M25)) rfl rfl rfl (fun c_120 => ?_) (fun c_120 => ?_)
              · have c_120 : ¬ w = 2 := of_decide_eq_true c_120
                refine ps_st (S' := (135, [(5, .int x83), (4, .int y_54), (0, .ref m0), (1, .int (nI k)), (2, .int kk), (3, .int w)], [.ref m0], M25)) rfl rfl rfl ?_
                refine ps_st (S' := (137, [(5, .int x83), (4, .int y_54), (0, .ref m0), (1, .int (nI k)), (2, .int kk), (3, .int w)], [.int y_54, .ref m0], M25)) rfl rfl rfl ?_
                refine ps_st (S' := (139, [(5, .int x83), (4, .int y_54), (0, .ref m0), (1, .int (nI k)), (2, .int kk), (3, .int w)], [.int x83, .int y_54, .ref m0], M25)) rfl rfl rfl ?_
                refine pl_call (a := [.ref m0, .int y_54, .int x83]) (rest := []) rfl rfl rfl (rd_secondU (x1 := y_54) (x2 := x83) (a49 := 0) (a77 := (nI (cpM f n E B k + 14))) hR55 hi72 hi60) (fun v84 M85 q86 => ?_)
                obtain ⟨x87, rfl, rfl⟩ := q86
                show pl _ _ _ (142, [], [.int x87], M25) _
                exact ps_reti rfl (⟨_, I53, R54, rfl, hR55, hEI78, hER79, hi73, Or.inr ⟨k, hk, hc0, hX_63⟩⟩)
              · have c_120 : ¬ (¬ w = 2) := of_decide_eq_false c_120
                refine ps_st (S' := (124, [(5, .int x83), (4, .int y_54), (0, .ref m0), (1, .int (nI k)), (2, .int kk), (3, .int w)], [.ref m0], M25)) rfl rfl rfl ?_
                refine ps_st (S' := (126, [(5, .int x83), (4, .int y_54), (0, .ref m0), (1, .int (nI k)), (2, .int kk), (3, .int w)], [.int y_54, .ref m0], M25)) rfl rfl rfl ?_
                refine ps_st (S' := (128, [(5, .int x83), (4, .int y_54), (0, .ref m0), (1, .int (nI k)), (2, .int kk), (3, .int w)], [.int x83, .int y_54, .ref m0], M25)) rfl rfl rfl ?_
                refine pl_call (a := [.ref m0, .int y_54, .int x83]) (rest := []) rfl rfl rfl (rd_firstU (x1 := y_54) (x2 := x83) (a49 := 0) (a77 := (nI (cpM f n E B k + 14))) hR55 hi72 hi60) (fun v88 M89 q90 => ?_)
                obtain ⟨x91, rfl, rfl⟩ := q90
                show pl _ _ _ (131, [(5, .int x83), (4, .int y_54), (0, .ref m0), (1, .int (nI k)), (2, .int kk), (3, .int w)], [.int x91], M25) _
                refine ps_st (S' := (142, [], [.int x91], M25)) rfl rfl rfl ?_
                exact ps_reti rfl (⟨_, I53, R54, rfl, hR55, hEI78, hER79, hi73, Or.inr ⟨k, hk, hc0, hX_63⟩⟩)
            · have c_88 : ¬ (¬ w = 4) := of_decide_eq_false c_88
              refine ps_st (S' := (93, [(5, .int x83), (4, .int y_54), (0, .ref m0), (1, .int (nI k)), (2, .int kk), (3, .int w)], [.int x83], M25)) rfl rfl rfl ?_
              refine ps_st (S' := (96, [(5, .int x83), (4, .int y_54), (0, .ref m0), (1, .int (nI k)), (2, .int kk), (3, .int w)], [.int 170, .int x83], M25)) rfl rfl rfl ?_
              refine ps_if2 (S1 := (107, [(0, .ref m0), (4, .int y_54)], [], M25)) (S2 := (99, [(5, .int x83), (4, .int y_54), (0, .ref m0), (1, .int (nI k)), (2, .int kk), (3, .int w)], [], M25)) rfl rfl rfl (fun c_96 => ?_) (fun c_96 => ?_)
              · have c_96 : x83 = 170 := of_decide_eq_true c_96
                refine ps_st (S' := (108, [(0, .ref m0), (4, .int y_54)], [.ref m0], M25)) rfl rfl rfl ?_
                refine ps_st (S' := (110, [(0, .ref m0), (4, .int y_54)], [.int y_54, .ref m0], M25)) rfl rfl rfl ?_
                refine pl_call (a := [.ref m0, .int y_54]) (rest := []) rfl rfl rfl (rd_waysU (x1 := y_54) (a49 := 0) (a77 := (nI (cpM f n E B k + 14))) hR55 hi72 hi60) (fun v92 M93 q94 => ?_)
                obtain ⟨x95, rfl, rfl⟩ := q94
                show pl _ _ _ (113, [(0, .ref m0), (4, .int y_54)], [.int x95], M25) _
                refine ps_st (S' := (117, [], [.int x95], M25)) rfl rfl rfl ?_
                exact ps_reti rfl (⟨_, I53, R54, rfl, hR55, hEI78, hER79, hi73, Or.inr ⟨k, hk, hc0, hX_63⟩⟩)
              · have c_96 : ¬ (x83 = 170) := of_decide_eq_false c_96
                refine ps_st (S' := (101, [(5, .int x83), (4, .int y_54), (0, .ref m0), (1, .int (nI k)), (2, .int kk), (3, .int w)], [.int x83], M25)) rfl rfl rfl ?_
                refine ps_st (S' := (104, [(5, .int x83), (4, .int y_54), (0, .ref m0), (1, .int (nI k)), (2, .int kk), (3, .int w)], [.int 171, .int x83], M25)) rfl rfl rfl ?_
                refine ps_if2 (S1 := (116, [(5, .int x83), (4, .int y_54), (0, .ref m0), (1, .int (nI k)), (2, .int kk), (3, .int w)], [], M25)) (S2 := (107, [(0, .ref m0), (4, .int y_54)], [], M25)) rfl rfl rfl (fun c_104 => ?_) (fun c_104 => ?_)
                · have c_104 : ¬ x83 = 171 := of_decide_eq_true c_104
                  refine ps_st (S' := (117, [], [.int 0], M25)) rfl rfl rfl ?_
                  exact ps_ret rfl rfl (⟨_, I53, R54, rfl, hR55, hEI78, hER79, hi73, Or.inr ⟨k, hk, hc0, hX_63⟩⟩)
                · have c_104 : ¬ (¬ x83 = 171) := of_decide_eq_false c_104
                  refine ps_st (S' := (108, [(0, .ref m0), (4, .int y_54)], [.ref m0], M25)) rfl rfl rfl ?_
                  refine ps_st (S' := (110, [(0, .ref m0), (4, .int y_54)], [.int y_54, .ref m0], M25)) rfl rfl rfl ?_
                  refine pl_call (a := [.ref m0, .int y_54]) (rest := []) rfl rfl rfl (rd_waysU (x1 := y_54) (a49 := 0) (a77 := (nI (cpM f n E B k + 14))) hR55 hi72 hi60) (fun v96 M97 q98 => ?_)
                  obtain ⟨x99, rfl, rfl⟩ := q98
                  show pl _ _ _ (113, [(0, .ref m0), (4, .int y_54)], [.int x99], M25) _
                  refine ps_st (S' := (117, [], [.int x99], M25)) rfl rfl rfl ?_
                  exact ps_reti rfl (⟨_, I53, R54, rfl, hR55, hEI78, hER79, hi73, Or.inr ⟨k, hk, hc0, hX_63⟩⟩)
          · have c_80 : ¬ (¬ w = 1) := of_decide_eq_false c_80
            refine ps_st (S' := (85, [(5, .int x83), (4, .int y_54), (0, .ref m0), (1, .int (nI k)), (2, .int kk), (3, .int w)], [.int y_54], M25)) rfl rfl rfl ?_
            exact ps_reti rfl (⟨_, I53, R54, rfl, hR55, hEI78, hER79, hi73, Or.inr ⟨k, hk, hc0, hX_63⟩⟩)
        · have c_66 : ¬ (¬ w = 0) := of_decide_eq_false c_66
          refine ps_st (S' := (70, [(5, .int x83), (4, .int y_54), (0, .ref m0), (1, .int (nI k)), (2, .int kk), (3, .int w)], [.ref m0], M25)) rfl rfl rfl ?_
          refine ps_st (S' := (72, [(5, .int x83), (4, .int y_54), (0, .ref m0), (1, .int (nI k)), (2, .int kk), (3, .int w)], [.int y_54, .ref m0], M25)) rfl rfl rfl ?_
          refine ps_st (S' := (74, [(5, .int x83), (4, .int y_54), (0, .ref m0), (1, .int (nI k)), (2, .int kk), (3, .int w)], [.int x83, .int y_54, .ref m0], M25)) rfl rfl rfl ?_
          refine pl_call (a := [.ref m0, .int y_54, .int x83]) (rest := []) rfl rfl rfl (rd_plainU (x1 := y_54) (x2 := x83) (a77 := (nI (cpM f n E B k + 14))) hR55 hi60) (fun v100 M101 q102 => ?_)
          obtain ⟨x103, rfl, rfl⟩ := q102
          show pl _ _ _ (77, [(5, .int x83), (4, .int y_54), (0, .ref m0), (1, .int (nI k)), (2, .int kk), (3, .int w)], [.int x103], M25) _
          exact ps_reti rfl (⟨_, I53, R54, rfl, hR55, hEI78, hER79, hi73, Or.inr ⟨k, hk, hc0, hX_63⟩⟩)
      · have c_44 : ¬ (kk < (nI S52.length)) := of_decide_eq_false c_44
        refine ps_st (S' := (48, [], [.int (-1)], M25)) rfl rfl rfl ?_
        exact ps_ret rfl rfl (⟨_, I53, R54, rfl, hR55, hEI78, hER79, hi73, Or.inr ⟨k, hk, hc0, hX_63⟩⟩)
set_option maxHeartbeats 1000000 in
theorem rd_instrK {g : xe_G} {m0 : Nat} {q : Nat → Nat} {z : Nat × Nat} {I : rI} {R : rR} {M : mi_H} {kn m : Int32} {kk w : Int32} (hR : RS g m0 q z I R M) (hi18 : I 18 = some kn)  (hk : kn < 0) (hw0 : ¬ w < 0) (hw4 : w ≤ 4) : pt (mT g) 215 [.ref m0, .int m, .int kk, .int w] M (fun v M' => (∃  (I' : rI) (R' : rR), v = some (.int (-1)) ∧ RS g m0 q z I' R' M' ∧ eqI [0] I I' ∧ eqR [] R R' ∧ I' 0 = some 0)) := by
  refine pt_in (b := mb_215 g) rfl (fun kf => ?_)
  show pl (mT g) kf (mb_215 g).2 (0, [(0, .ref m0), (1, .int m), (2, .int kk), (3, .int w)], [], M) _
  have hEI : eqI [0] I I := eqI.rf
  have hER : eqR [] R R := eqR.rf
  refine ps_st (S' := (1, [(0, .ref m0), (1, .int m), (2, .int kk), (3, .int w)], [.ref m0], M)) rfl rfl rfl ?_
  refine ps_st (S' := (2, [(0, .ref m0), (1, .int m), (2, .int kk), (3, .int w)], [.int 0, .ref m0], M)) rfl rfl rfl ?_
  refine pr_put (j := 0) rfl hR rfl (fun M1 I2 hR3 hi4 hI5 => ?_)
  have hi6 := (hI5 18 (by decide)).trans hi18
  have hEI7 := hEI.put hI5 (by decide)
  show pl _ _ _ (5, [(0, .ref m0), (1, .int m), (2, .int kk), (3, .int w)], [], M1) _
  refine ps_st (S' := (6, [(0, .ref m0), (1, .int m), (2, .int kk), (3, .int w)], [.int w], M1)) rfl rfl rfl ?_
  refine ps_if (S1 := (14, [(0, .ref m0)], [], M1)) (S2 := (9, [(0, .ref m0), (1, .int m), (2, .int kk), (3, .int w)], [], M1)) rfl rfl rfl (fun c_6 => ?_) (fun c_6 => ?_)
  · exact absurd (of_decide_eq_true c_6) (hw0)
  refine ps_st (S' := (10, [(0, .ref m0), (1, .int m), (2, .int kk), (3, .int w)], [.int w], M1)) rfl rfl rfl ?_
  refine ps_st (S' := (11, [(0, .ref m0), (1, .int m), (2, .int kk), (3, .int w)], [.int 4, .int w], M1)) rfl rfl rfl ?_
  refine ps_if2 (S1 := (19, [(0, .ref m0), (1, .int m), (2, .int kk), (3, .int w)], [], M1)) (S2 := (14, [(0, .ref m0)], [], M1)) rfl rfl rfl (fun c_11 => ?_) (fun c_11 => ?_)
  rotate_left
  · exact absurd (hw4) (of_decide_eq_false c_11)
  refine ps_st (S' := (20, [(0, .ref m0), (1, .int m), (2, .int kk), (3, .int w)], [.ref m0], M1)) rfl rfl rfl ?_
  refine ps_st (S' := (21, [(0, .ref m0), (1, .int m), (2, .int kk), (3, .int w)], [.int m, .ref m0], M1)) rfl rfl rfl ?_
  refine pl_call (a := [.ref m0, .int m]) (rest := []) rfl rfl rfl (rd_noCodeK (kn := kn) (m := m) hR3 hi6 (hk)) (fun v8 M9 q10 => ?_)
  obtain ⟨rfl, rfl⟩ := q10
  show pl _ _ _ (24, [(0, .ref m0), (1, .int m), (2, .int kk), (3, .int w)], [.int 1], M1) _
  refine ps_if (S1 := (47, [], [], M1)) (S2 := (27, [(0, .ref m0), (1, .int m), (2, .int kk), (3, .int w)], [], M1)) rfl rfl rfl (fun c_24 => ?_) (fun c_24 => ?_)
  rotate_left
  · exact absurd (by decide) (of_decide_eq_false c_24)
  refine ps_st (S' := (48, [], [.int (-1)], M1)) rfl rfl rfl ?_
  exact ps_ret rfl rfl (⟨I2, R, rfl, hR3, hEI7, hER, hi4⟩)
set_option maxHeartbeats 1000000 in
theorem rd_instrN {g : xe_G} {m0 : Nat} {q : Nat → Nat} {z : Nat × Nat} {I : rI} {R : rR} {M : mi_H} {n2 l : Nat} {m : Int32} {kk w : Int32} (hR : RS g m0 q z I R M) (hi18 : I 18 = some (nI n2)) (hi26 : I 26 = some (nI l))  (hn2 : n2 ≤ 65540) (hi : m < 0 ∨ nI l ≤ m) (hw0 : ¬ w < 0) (hw4 : w ≤ 4) : pt (mT g) 215 [.ref m0, .int m, .int kk, .int w] M (fun v M' => (∃  (I' : rI) (R' : rR), v = some (.int (-1)) ∧ RS g m0 q z I' R' M' ∧ eqI [0] I I' ∧ eqR [] R R' ∧ I' 0 = some 0)) := by
  refine pt_in (b := mb_215 g) rfl (fun kf => ?_)
  show pl (mT g) kf (mb_215 g).2 (0, [(0, .ref m0), (1, .int m), (2, .int kk), (3, .int w)], [], M) _
  have hEI : eqI [0] I I := eqI.rf
  have hER : eqR [] R R := eqR.rf
  refine ps_st (S' := (1, [(0, .ref m0), (1, .int m), (2, .int kk), (3, .int w)], [.ref m0], M)) rfl rfl rfl ?_
  refine ps_st (S' := (2, [(0, .ref m0), (1, .int m), (2, .int kk), (3, .int w)], [.int 0, .ref m0], M)) rfl rfl rfl ?_
  refine pr_put (j := 0) rfl hR rfl (fun M1 I2 hR3 hi4 hI5 => ?_)
  have hi6 := (hI5 18 (by decide)).trans hi18
  have hi7 := (hI5 26 (by decide)).trans hi26
  have hEI8 := hEI.put hI5 (by decide)
  show pl _ _ _ (5, [(0, .ref m0), (1, .int m), (2, .int kk), (3, .int w)], [], M1) _
  refine ps_st (S' := (6, [(0, .ref m0), (1, .int m), (2, .int kk), (3, .int w)], [.int w], M1)) rfl rfl rfl ?_
  refine ps_if (S1 := (14, [(0, .ref m0)], [], M1)) (S2 := (9, [(0, .ref m0), (1, .int m), (2, .int kk), (3, .int w)], [], M1)) rfl rfl rfl (fun c_6 => ?_) (fun c_6 => ?_)
  · exact absurd (of_decide_eq_true c_6) (hw0)
  refine ps_st (S' := (10, [(0, .ref m0), (1, .int m), (2, .int kk), (3, .int w)], [.int w], M1)) rfl rfl rfl ?_
  refine ps_st (S' := (11, [(0, .ref m0), (1, .int m), (2, .int kk), (3, .int w)], [.int 4, .int w], M1)) rfl rfl rfl ?_
  refine ps_if2 (S1 := (19, [(0, .ref m0), (1, .int m), (2, .int kk), (3, .int w)], [], M1)) (S2 := (14, [(0, .ref m0)], [], M1)) rfl rfl rfl (fun c_11 => ?_) (fun c_11 => ?_)
  rotate_left
  · exact absurd (hw4) (of_decide_eq_false c_11)
  refine ps_st (S' := (20, [(0, .ref m0), (1, .int m), (2, .int kk), (3, .int w)], [.ref m0], M1)) rfl rfl rfl ?_
  refine ps_st (S' := (21, [(0, .ref m0), (1, .int m), (2, .int kk), (3, .int w)], [.int m, .ref m0], M1)) rfl rfl rfl ?_
  refine pl_call (a := [.ref m0, .int m]) (rest := []) rfl rfl rfl (rd_noCodeN (n2 := n2) (l := l) (m := m) hR3 hi6 hi7 (hn2) (hi)) (fun v9 M10 q11 => ?_)
  obtain ⟨rfl, rfl⟩ := q11
  show pl _ _ _ (24, [(0, .ref m0), (1, .int m), (2, .int kk), (3, .int w)], [.int 1], M1) _
  refine ps_if (S1 := (47, [], [], M1)) (S2 := (27, [(0, .ref m0), (1, .int m), (2, .int kk), (3, .int w)], [], M1)) rfl rfl rfl (fun c_24 => ?_) (fun c_24 => ?_)
  rotate_left
  · exact absurd (by decide) (of_decide_eq_false c_24)
  refine ps_st (S' := (48, [], [.int (-1)], M1)) rfl rfl rfl ?_
  exact ps_ret rfl rfl (⟨I2, R, rfl, hR3, hEI8, hER, hi4⟩)
set_option maxHeartbeats 1000000 in
theorem rd_instrC {g : xe_G} {m0 : Nat} {q : Nat → Nat} {z : Nat × Nat} {I : rI} {R : rR} {M : mi_H} {f : Nat → Int32} {n n2 k : Nat} {E : List (Nat × Nat)} {B : List Nat} {kk w : Int32} (hR : RS g m0 q z I R M) (hi18 : I 18 = some (nI n2)) (hi26 : I 26 = some (nI B.length)) (hQ : MQX f n E B 0 B.length I R) (hn2 : n2 ≤ 65540) (hk : k < B.length) (hBl : B.length < 65536) (hc0 : cpM f n E B k = 0) (hw0 : ¬ w < 0) (hw4 : w ≤ 4) : pt (mT g) 215 [.ref m0, .int (nI k), .int kk, .int w] M (fun v M' => (∃  (I' : rI) (R' : rR), v = some (.int (-1)) ∧ RS g m0 q z I' R' M' ∧ eqI [0] I I' ∧ eqR [] R R' ∧ I' 0 = some 0)) := by
  refine pt_in (b := mb_215 g) rfl (fun kf => ?_)
  show pl (mT g) kf (mb_215 g).2 (0, [(0, .ref m0), (1, .int (nI k)), (2, .int kk), (3, .int w)], [], M) _
  have hEI : eqI [0] I I := eqI.rf
  have hER : eqR [] R R := eqR.rf
  refine ps_st (S' := (1, [(0, .ref m0), (1, .int (nI k)), (2, .int kk), (3, .int w)], [.ref m0], M)) rfl rfl rfl ?_
  refine ps_st (S' := (2, [(0, .ref m0), (1, .int (nI k)), (2, .int kk), (3, .int w)], [.int 0, .ref m0], M)) rfl rfl rfl ?_
  refine pr_put (j := 0) rfl hR rfl (fun M1 I2 hR3 hi4 hI5 => ?_)
  have hi6 := (hI5 18 (by decide)).trans hi18
  have hi7 := (hI5 26 (by decide)).trans hi26
  have hQ_8 := hQ.mono (pIx hI5 (by decide)) (fun _ _ => rfl)
  have hEI9 := hEI.put hI5 (by decide)
  show pl _ _ _ (5, [(0, .ref m0), (1, .int (nI k)), (2, .int kk), (3, .int w)], [], M1) _
  refine ps_st (S' := (6, [(0, .ref m0), (1, .int (nI k)), (2, .int kk), (3, .int w)], [.int w], M1)) rfl rfl rfl ?_
  refine ps_if (S1 := (14, [(0, .ref m0)], [], M1)) (S2 := (9, [(0, .ref m0), (1, .int (nI k)), (2, .int kk), (3, .int w)], [], M1)) rfl rfl rfl (fun c_6 => ?_) (fun c_6 => ?_)
  · exact absurd (of_decide_eq_true c_6) (hw0)
  refine ps_st (S' := (10, [(0, .ref m0), (1, .int (nI k)), (2, .int kk), (3, .int w)], [.int w], M1)) rfl rfl rfl ?_
  refine ps_st (S' := (11, [(0, .ref m0), (1, .int (nI k)), (2, .int kk), (3, .int w)], [.int 4, .int w], M1)) rfl rfl rfl ?_
  refine ps_if2 (S1 := (19, [(0, .ref m0), (1, .int (nI k)), (2, .int kk), (3, .int w)], [], M1)) (S2 := (14, [(0, .ref m0)], [], M1)) rfl rfl rfl (fun c_11 => ?_) (fun c_11 => ?_)
  rotate_left
  · exact absurd (hw4) (of_decide_eq_false c_11)
  refine ps_st (S' := (20, [(0, .ref m0), (1, .int (nI k)), (2, .int kk), (3, .int w)], [.ref m0], M1)) rfl rfl rfl ?_
  refine ps_st (S' := (21, [(0, .ref m0), (1, .int (nI k)), (2, .int kk), (3, .int w)], [.int (nI k), .ref m0], M1)) rfl rfl rfl ?_
  refine pl_call (a := [.ref m0, .int (nI k)]) (rest := []) rfl rfl rfl (rd_noCodeC (f := f) (n := n) (n2 := n2) (k := k) (E := E) (B := B) hR3 hi6 hi7 hQ_8 (hn2) (hk) (hBl) (hc0)) (fun v10 M11 q12 => ?_)
  obtain ⟨rfl, rfl⟩ := q12
  show pl _ _ _ (24, [(0, .ref m0), (1, .int (nI k)), (2, .int kk), (3, .int w)], [.int 1], M1) _
  refine ps_if (S1 := (47, [], [], M1)) (S2 := (27, [(0, .ref m0), (1, .int (nI k)), (2, .int kk), (3, .int w)], [], M1)) rfl rfl rfl (fun c_24 => ?_) (fun c_24 => ?_)
  rotate_left
  · exact absurd (by decide) (of_decide_eq_false c_24)
  refine ps_st (S' := (48, [], [.int (-1)], M1)) rfl rfl rfl ?_
  exact ps_ret rfl rfl (⟨I2, R, rfl, hR3, hEI9, hER, hi4⟩)
set_option maxHeartbeats 1000000 in
theorem rd_jumpK {g : xe_G} {m0 : Nat} {q : Nat → Nat} {z : Nat × Nat} {I : rI} {R : rR} {M : mi_H} {kn m : Int32} {kk i w : Int32} (hR : RS g m0 q z I R M) (hi18 : I 18 = some kn)  (hk : kn < 0) : pt (mT g) 220 [.ref m0, .int m, .int kk, .int i, .int w] M (fun v M' => (∃  (I' : rI) (R' : rR), v = some (.int (-1)) ∧ RS g m0 q z I' R' M' ∧ eqI [0] I I' ∧ eqR [] R R' ∧ I' 0 = some 0)) := by
  refine pt_in (b := mb_220 g) rfl (fun kf => ?_)
  show pl (mT g) kf (mb_220 g).2 (0, [(0, .ref m0), (1, .int m), (2, .int kk), (3, .int i), (4, .int w)], [], M) _
  have hEI : eqI [0] I I := eqI.rf
  have hER : eqR [] R R := eqR.rf
  refine ps_st (S' := (1, [(0, .ref m0), (1, .int m), (2, .int kk), (3, .int i), (4, .int w)], [.ref m0], M)) rfl rfl rfl ?_
  refine ps_st (S' := (2, [(0, .ref m0), (1, .int m), (2, .int kk), (3, .int i), (4, .int w)], [.int 0, .ref m0], M)) rfl rfl rfl ?_
  refine pr_put (j := 0) rfl hR rfl (fun M1 I2 hR3 hi4 hI5 => ?_)
  have hi6 := (hI5 18 (by decide)).trans hi18
  have hEI7 := hEI.put hI5 (by decide)
  show pl _ _ _ (5, [(0, .ref m0), (1, .int m), (2, .int kk), (3, .int i), (4, .int w)], [], M1) _
  refine ps_st (S' := (6, [(0, .ref m0), (1, .int m), (2, .int kk), (3, .int i), (4, .int w)], [.ref m0], M1)) rfl rfl rfl ?_
  refine ps_st (S' := (7, [(0, .ref m0), (1, .int m), (2, .int kk), (3, .int i), (4, .int w)], [.int m, .ref m0], M1)) rfl rfl rfl ?_
  refine pl_call (a := [.ref m0, .int m]) (rest := []) rfl rfl rfl (rd_noCodeK (kn := kn) (m := m) hR3 hi6 (hk)) (fun v8 M9 q10 => ?_)
  obtain ⟨rfl, rfl⟩ := q10
  show pl _ _ _ (10, [(0, .ref m0), (1, .int m), (2, .int kk), (3, .int i), (4, .int w)], [.int 1], M1) _
  refine ps_if (S1 := (33, [], [], M1)) (S2 := (13, [(0, .ref m0), (1, .int m), (2, .int kk), (3, .int i), (4, .int w)], [], M1)) rfl rfl rfl (fun c_10 => ?_) (fun c_10 => ?_)
  rotate_left
  · exact absurd (by decide) (of_decide_eq_false c_10)
  refine ps_st (S' := (34, [], [.int (-1)], M1)) rfl rfl rfl ?_
  exact ps_ret rfl rfl (⟨I2, R, rfl, hR3, hEI7, hER, hi4⟩)
set_option maxHeartbeats 1000000 in
theorem rd_jumpN {g : xe_G} {m0 : Nat} {q : Nat → Nat} {z : Nat × Nat} {I : rI} {R : rR} {M : mi_H} {n2 l : Nat} {m : Int32} {kk i w : Int32} (hR : RS g m0 q z I R M) (hi18 : I 18 = some (nI n2)) (hi26 : I 26 = some (nI l))  (hn2 : n2 ≤ 65540) (hi : m < 0 ∨ nI l ≤ m) : pt (mT g) 220 [.ref m0, .int m, .int kk, .int i, .int w] M (fun v M' => (∃  (I' : rI) (R' : rR), v = some (.int (-1)) ∧ RS g m0 q z I' R' M' ∧ eqI [0] I I' ∧ eqR [] R R' ∧ I' 0 = some 0)) := by
  refine pt_in (b := mb_220 g) rfl (fun kf => ?_)
  show pl (mT g) kf (mb_220 g).2 (0, [(0, .ref m0), (1, .int m), (2, .int kk), (3, .int i), (4, .int w)], [], M) _
  have hEI : eqI [0] I I := eqI.rf
  have hER : eqR [] R R := eqR.rf
  refine ps_st (S' := (1, [(0, .ref m0), (1, .int m), (2, .int kk), (3, .int i), (4, .int w)], [.ref m0], M)) rfl rfl rfl ?_
  refine ps_st (S' := (2, [(0, .ref m0), (1, .int m), (2, .int kk), (3, .int i), (4, .int w)], [.int 0, .ref m0], M)) rfl rfl rfl ?_
  refine pr_put (j := 0) rfl hR rfl (fun M1 I2 hR3 hi4 hI5 => ?_)
  have hi6 := (hI5 18 (by decide)).trans hi18
  have hi7 := (hI5 26 (by decide)).trans hi26
  have hEI8 := hEI.put hI5 (by decide)
  show pl _ _ _ (5, [(0, .ref m0), (1, .int m), (2, .int kk), (3, .int i), (4, .int w)], [], M1) _
  refine ps_st (S' := (6, [(0, .ref m0), (1, .int m), (2, .int kk), (3, .int i), (4, .int w)], [.ref m0], M1)) rfl rfl rfl ?_
  refine ps_st (S' := (7, [(0, .ref m0), (1, .int m), (2, .int kk), (3, .int i), (4, .int w)], [.int m, .ref m0], M1)) rfl rfl rfl ?_
  refine pl_call (a := [.ref m0, .int m]) (rest := []) rfl rfl rfl (rd_noCodeN (n2 := n2) (l := l) (m := m) hR3 hi6 hi7 (hn2) (hi)) (fun v9 M10 q11 => ?_)
  obtain ⟨rfl, rfl⟩ := q11
  show pl _ _ _ (10, [(0, .ref m0), (1, .int m), (2, .int kk), (3, .int i), (4, .int w)], [.int 1], M1) _
  refine ps_if (S1 := (33, [], [], M1)) (S2 := (13, [(0, .ref m0), (1, .int m), (2, .int kk), (3, .int i), (4, .int w)], [], M1)) rfl rfl rfl (fun c_10 => ?_) (fun c_10 => ?_)
  rotate_left
  · exact absurd (by decide) (of_decide_eq_false c_10)
  refine ps_st (S' := (34, [], [.int (-1)], M1)) rfl rfl rfl ?_
  exact ps_ret rfl rfl (⟨I2, R, rfl, hR3, hEI8, hER, hi4⟩)
set_option maxHeartbeats 1000000 in
theorem rd_jumpC {g : xe_G} {m0 : Nat} {q : Nat → Nat} {z : Nat × Nat} {I : rI} {R : rR} {M : mi_H} {f : Nat → Int32} {n n2 k : Nat} {E : List (Nat × Nat)} {B : List Nat} {kk i w : Int32} (hR : RS g m0 q z I R M) (hi18 : I 18 = some (nI n2)) (hi26 : I 26 = some (nI B.length)) (hQ : MQX f n E B 0 B.length I R) (hn2 : n2 ≤ 65540) (hk : k < B.length) (hBl : B.length < 65536) (hc0 : cpM f n E B k = 0) : pt (mT g) 220 [.ref m0, .int (nI k), .int kk, .int i, .int w] M (fun v M' => (∃  (I' : rI) (R' : rR), v = some (.int (-1)) ∧ RS g m0 q z I' R' M' ∧ eqI [0] I I' ∧ eqR [] R R' ∧ I' 0 = some 0)) := by
  refine pt_in (b := mb_220 g) rfl (fun kf => ?_)
  show pl (mT g) kf (mb_220 g).2 (0, [(0, .ref m0), (1, .int (nI k)), (2, .int kk), (3, .int i), (4, .int w)], [], M) _
  have hEI : eqI [0] I I := eqI.rf
  have hER : eqR [] R R := eqR.rf
  refine ps_st (S' := (1, [(0, .ref m0), (1, .int (nI k)), (2, .int kk), (3, .int i), (4, .int w)], [.ref m0], M)) rfl rfl rfl ?_
  refine ps_st (S' := (2, [(0, .ref m0), (1, .int (nI k)), (2, .int kk), (3, .int i), (4, .int w)], [.int 0, .ref m0], M)) rfl rfl rfl ?_
  refine pr_put (j := 0) rfl hR rfl (fun M1 I2 hR3 hi4 hI5 => ?_)
  have hi6 := (hI5 18 (by decide)).trans hi18
  have hi7 := (hI5 26 (by decide)).trans hi26
  have hQ_8 := hQ.mono (pIx hI5 (by decide)) (fun _ _ => rfl)
  have hEI9 := hEI.put hI5 (by decide)
  show pl _ _ _ (5, [(0, .ref m0), (1, .int (nI k)), (2, .int kk), (3, .int i), (4, .int w)], [], M1) _
  refine ps_st (S' := (6, [(0, .ref m0), (1, .int (nI k)), (2, .int kk), (3, .int i), (4, .int w)], [.ref m0], M1)) rfl rfl rfl ?_
  refine ps_st (S' := (7, [(0, .ref m0), (1, .int (nI k)), (2, .int kk), (3, .int i), (4, .int w)], [.int (nI k), .ref m0], M1)) rfl rfl rfl ?_
  refine pl_call (a := [.ref m0, .int (nI k)]) (rest := []) rfl rfl rfl (rd_noCodeC (f := f) (n := n) (n2 := n2) (k := k) (E := E) (B := B) hR3 hi6 hi7 hQ_8 (hn2) (hk) (hBl) (hc0)) (fun v10 M11 q12 => ?_)
  obtain ⟨rfl, rfl⟩ := q12
  show pl _ _ _ (10, [(0, .ref m0), (1, .int (nI k)), (2, .int kk), (3, .int i), (4, .int w)], [.int 1], M1) _
  refine ps_if (S1 := (33, [], [], M1)) (S2 := (13, [(0, .ref m0), (1, .int (nI k)), (2, .int kk), (3, .int i), (4, .int w)], [], M1)) rfl rfl rfl (fun c_10 => ?_) (fun c_10 => ?_)
  rotate_left
  · exact absurd (by decide) (of_decide_eq_false c_10)
  refine ps_st (S' := (34, [], [.int (-1)], M1)) rfl rfl rfl ?_
  exact ps_ret rfl rfl (⟨I2, R, rfl, hR3, hEI9, hER, hi4⟩)
