/-! the reference: members (laid by wip/p2/c70.py) -/
set_option maxHeartbeats 2000000 in
theorem rm_several {g : xe_G}  {m0 : Nat} {q : Nat → Nat} {z : Nat × Nat} {I : rI} {R : rR} {M : mi_H} {x1 x2 x3 x4 : Int32}  (hR : RS g m0 q z I R M) {d : Nat} (hd : 1 ≤ d) : mt (mT g) d 242 [.int x1, .int x2, .int x3, .int x4] M (fun v M' => (∃ x : Int32, v = some (.int x) ∧ (x = 0 ∨ x = 1)) ∧ M' = M) := by
  obtain ⟨d, rfl⟩ : ∃ e, d = e + 1 := ⟨d - 1, by omega⟩
  refine mt_in (b := mb_242 g) rfl rfl ?_
  show ml (mT g) d (mb_242 g).2 (0, [(0, .int x1), (1, .int x2), (2, .int x3), (3, .int x4)], [], M) _
  refine ml_blk 3 (S' := (3, [(0, .int x1), (1, .int x2), (2, .int x3), (3, .int x4)], [.int (x1 &&& x2)], M)) rfl ?_
  refine ml_if (S1 := (10, [(0, .int x1), (1, .int x2), (2, .int x3), (3, .int x4)], [], M)) (S2 := (6, [(0, .int x1), (1, .int x2), (2, .int x3), (3, .int x4)], [], M)) rfl rfl rfl (fun c_3 => ?_) (fun c_3 => ?_)
  · have c_3 : (x1 &&& x2) = 0 := of_decide_eq_true c_3
    refine ml_st (S' := (11, [(0, .int x1), (2, .int x3), (3, .int x4)], [.int 0], M)) rfl rfl rfl ?_
    refine ml_blk 3 (S' := (14, [(0, .int x1), (2, .int x3), (3, .int x4)], [.int (x1 &&& x3), .int 0], M)) rfl ?_
    refine ml_if (S1 := (21, [(0, .int x1), (2, .int x3), (3, .int x4)], [.int 0], M)) (S2 := (17, [(0, .int x1), (2, .int x3), (3, .int x4)], [.int 0], M)) rfl rfl rfl (fun c_14 => ?_) (fun c_14 => ?_)
    · have c_14 : (x1 &&& x3) = 0 := of_decide_eq_true c_14
      refine ml_st (S' := (22, [(0, .int x1), (3, .int x4)], [.int 0, .int 0], M)) rfl rfl rfl ?_
      refine ml_blk 3 (S' := (25, [(0, .int x1), (3, .int x4)], [.int x4, .int x1, .int (0 + 0)], M)) rfl ?_
      refine ml_st (S' := (26, [(0, .int x1), (3, .int x4)], [.int (x1 &&& x4), .int (0 + 0)], M)) rfl rfl rfl ?_
      refine ml_if (S1 := (33, [(0, .int x1), (3, .int x4)], [.int (0 + 0)], M)) (S2 := (29, [(0, .int x1), (3, .int x4)], [.int (0 + 0)], M)) rfl rfl rfl (fun c_26 => ?_) (fun c_26 => ?_)
      · have c_26 : (x1 &&& x4) = 0 := of_decide_eq_true c_26
        refine ml_st (S' := (34, [], [.int 0, .int (0 + 0)], M)) rfl rfl rfl ?_
        refine ml_blk 2 (S' := (36, [], [.int 1, .int ((0 + 0) + 0)], M)) rfl ?_
        refine ml_if2 (S1 := (43, [], [], M)) (S2 := (39, [], [], M)) rfl rfl rfl (fun c_36 => ?_) (fun c_36 => ?_)
        · have c_36 : ((0 + 0) + 0) ≤ 1 := of_decide_eq_true c_36
          refine ml_st (S' := (44, [], [.int 0], M)) rfl rfl rfl ?_
          exact ml_ret rfl (r_z (Or.inl rfl)) (⟨⟨_, rfl, Or.inl rfl⟩, rfl⟩)
        · have c_36 : ¬ (((0 + 0) + 0) ≤ 1) := of_decide_eq_false c_36
          refine ml_st (S' := (40, [], [.int 1], M)) rfl rfl rfl ?_
          refine ml_st (S' := (44, [], [.int 1], M)) rfl rfl rfl ?_
          exact ml_ret rfl (r_z (Or.inr rfl)) (⟨⟨_, rfl, Or.inr rfl⟩, rfl⟩)
      · have c_26 : ¬ ((x1 &&& x4) = 0) := of_decide_eq_false c_26
        refine ml_st (S' := (30, [(0, .int x1), (3, .int x4)], [.int 1, .int (0 + 0)], M)) rfl rfl rfl ?_
        refine ml_st (S' := (34, [], [.int 1, .int (0 + 0)], M)) rfl rfl rfl ?_
        refine ml_blk 2 (S' := (36, [], [.int 1, .int ((0 + 0) + 1)], M)) rfl ?_
        refine ml_if2 (S1 := (43, [], [], M)) (S2 := (39, [], [], M)) rfl rfl rfl (fun c_36 => ?_) (fun c_36 => ?_)
        · have c_36 : ((0 + 0) + 1) ≤ 1 := of_decide_eq_true c_36
          refine ml_st (S' := (44, [], [.int 0], M)) rfl rfl rfl ?_
          exact ml_ret rfl (r_z (Or.inl rfl)) (⟨⟨_, rfl, Or.inl rfl⟩, rfl⟩)
        · have c_36 : ¬ (((0 + 0) + 1) ≤ 1) := of_decide_eq_false c_36
          refine ml_st (S' := (40, [], [.int 1], M)) rfl rfl rfl ?_
          refine ml_st (S' := (44, [], [.int 1], M)) rfl rfl rfl ?_
          exact ml_ret rfl (r_z (Or.inr rfl)) (⟨⟨_, rfl, Or.inr rfl⟩, rfl⟩)
    · have c_14 : ¬ ((x1 &&& x3) = 0) := of_decide_eq_false c_14
      refine ml_st (S' := (18, [(0, .int x1), (2, .int x3), (3, .int x4)], [.int 1, .int 0], M)) rfl rfl rfl ?_
      refine ml_st (S' := (22, [(0, .int x1), (3, .int x4)], [.int 1, .int 0], M)) rfl rfl rfl ?_
      refine ml_blk 3 (S' := (25, [(0, .int x1), (3, .int x4)], [.int x4, .int x1, .int (0 + 1)], M)) rfl ?_
      refine ml_st (S' := (26, [(0, .int x1), (3, .int x4)], [.int (x1 &&& x4), .int (0 + 1)], M)) rfl rfl rfl ?_
      refine ml_if (S1 := (33, [(0, .int x1), (3, .int x4)], [.int (0 + 1)], M)) (S2 := (29, [(0, .int x1), (3, .int x4)], [.int (0 + 1)], M)) rfl rfl rfl (fun c_26 => ?_) (fun c_26 => ?_)
      · have c_26 : (x1 &&& x4) = 0 := of_decide_eq_true c_26
        refine ml_st (S' := (34, [], [.int 0, .int (0 + 1)], M)) rfl rfl rfl ?_
        refine ml_blk 2 (S' := (36, [], [.int 1, .int ((0 + 1) + 0)], M)) rfl ?_
        refine ml_if2 (S1 := (43, [], [], M)) (S2 := (39, [], [], M)) rfl rfl rfl (fun c_36 => ?_) (fun c_36 => ?_)
        · have c_36 : ((0 + 1) + 0) ≤ 1 := of_decide_eq_true c_36
          refine ml_st (S' := (44, [], [.int 0], M)) rfl rfl rfl ?_
          exact ml_ret rfl (r_z (Or.inl rfl)) (⟨⟨_, rfl, Or.inl rfl⟩, rfl⟩)
        · have c_36 : ¬ (((0 + 1) + 0) ≤ 1) := of_decide_eq_false c_36
          refine ml_st (S' := (40, [], [.int 1], M)) rfl rfl rfl ?_
          refine ml_st (S' := (44, [], [.int 1], M)) rfl rfl rfl ?_
          exact ml_ret rfl (r_z (Or.inr rfl)) (⟨⟨_, rfl, Or.inr rfl⟩, rfl⟩)
      · have c_26 : ¬ ((x1 &&& x4) = 0) := of_decide_eq_false c_26
        refine ml_st (S' := (30, [(0, .int x1), (3, .int x4)], [.int 1, .int (0 + 1)], M)) rfl rfl rfl ?_
        refine ml_st (S' := (34, [], [.int 1, .int (0 + 1)], M)) rfl rfl rfl ?_
        refine ml_blk 2 (S' := (36, [], [.int 1, .int ((0 + 1) + 1)], M)) rfl ?_
        refine ml_if2 (S1 := (43, [], [], M)) (S2 := (39, [], [], M)) rfl rfl rfl (fun c_36 => ?_) (fun c_36 => ?_)
        · have c_36 : ((0 + 1) + 1) ≤ 1 := of_decide_eq_true c_36
          refine ml_st (S' := (44, [], [.int 0], M)) rfl rfl rfl ?_
          exact ml_ret rfl (r_z (Or.inl rfl)) (⟨⟨_, rfl, Or.inl rfl⟩, rfl⟩)
        · have c_36 : ¬ (((0 + 1) + 1) ≤ 1) := of_decide_eq_false c_36
          refine ml_st (S' := (40, [], [.int 1], M)) rfl rfl rfl ?_
          refine ml_st (S' := (44, [], [.int 1], M)) rfl rfl rfl ?_
          exact ml_ret rfl (r_z (Or.inr rfl)) (⟨⟨_, rfl, Or.inr rfl⟩, rfl⟩)
  · have c_3 : ¬ ((x1 &&& x2) = 0) := of_decide_eq_false c_3
    refine ml_st (S' := (7, [(0, .int x1), (1, .int x2), (2, .int x3), (3, .int x4)], [.int 1], M)) rfl rfl rfl ?_
    refine ml_st (S' := (11, [(0, .int x1), (2, .int x3), (3, .int x4)], [.int 1], M)) rfl rfl rfl ?_
    refine ml_blk 3 (S' := (14, [(0, .int x1), (2, .int x3), (3, .int x4)], [.int (x1 &&& x3), .int 1], M)) rfl ?_
    refine ml_if (S1 := (21, [(0, .int x1), (2, .int x3), (3, .int x4)], [.int 1], M)) (S2 := (17, [(0, .int x1), (2, .int x3), (3, .int x4)], [.int 1], M)) rfl rfl rfl (fun c_14 => ?_) (fun c_14 => ?_)
    · have c_14 : (x1 &&& x3) = 0 := of_decide_eq_true c_14
      refine ml_st (S' := (22, [(0, .int x1), (3, .int x4)], [.int 0, .int 1], M)) rfl rfl rfl ?_
      refine ml_blk 3 (S' := (25, [(0, .int x1), (3, .int x4)], [.int x4, .int x1, .int (1 + 0)], M)) rfl ?_
      refine ml_st (S' := (26, [(0, .int x1), (3, .int x4)], [.int (x1 &&& x4), .int (1 + 0)], M)) rfl rfl rfl ?_
      refine ml_if (S1 := (33, [(0, .int x1), (3, .int x4)], [.int (1 + 0)], M)) (S2 := (29, [(0, .int x1), (3, .int x4)], [.int (1 + 0)], M)) rfl rfl rfl (fun c_26 => ?_) (fun c_26 => ?_)
      · have c_26 : (x1 &&& x4) = 0 := of_decide_eq_true c_26
        refine ml_st (S' := (34, [], [.int 0, .int (1 + 0)], M)) rfl rfl rfl ?_
        refine ml_blk 2 (S' := (36, [], [.int 1, .int ((1 + 0) + 0)], M)) rfl ?_
        refine ml_if2 (S1 := (43, [], [], M)) (S2 := (39, [], [], M)) rfl rfl rfl (fun c_36 => ?_) (fun c_36 => ?_)
        · have c_36 : ((1 + 0) + 0) ≤ 1 := of_decide_eq_true c_36
          refine ml_st (S' := (44, [], [.int 0], M)) rfl rfl rfl ?_
          exact ml_ret rfl (r_z (Or.inl rfl)) (⟨⟨_, rfl, Or.inl rfl⟩, rfl⟩)
        · have c_36 : ¬ (((1 + 0) + 0) ≤ 1) := of_decide_eq_false c_36
          refine ml_st (S' := (40, [], [.int 1], M)) rfl rfl rfl ?_
          refine ml_st (S' := (44, [], [.int 1], M)) rfl rfl rfl ?_
          exact ml_ret rfl (r_z (Or.inr rfl)) (⟨⟨_, rfl, Or.inr rfl⟩, rfl⟩)
      · have c_26 : ¬ ((x1 &&& x4) = 0) := of_decide_eq_false c_26
        refine ml_st (S' := (30, [(0, .int x1), (3, .int x4)], [.int 1, .int (1 + 0)], M)) rfl rfl rfl ?_
        refine ml_st (S' := (34, [], [.int 1, .int (1 + 0)], M)) rfl rfl rfl ?_
        refine ml_blk 2 (S' := (36, [], [.int 1, .int ((1 + 0) + 1)], M)) rfl ?_
        refine ml_if2 (S1 := (43, [], [], M)) (S2 := (39, [], [], M)) rfl rfl rfl (fun c_36 => ?_) (fun c_36 => ?_)
        · have c_36 : ((1 + 0) + 1) ≤ 1 := of_decide_eq_true c_36
          refine ml_st (S' := (44, [], [.int 0], M)) rfl rfl rfl ?_
          exact ml_ret rfl (r_z (Or.inl rfl)) (⟨⟨_, rfl, Or.inl rfl⟩, rfl⟩)
        · have c_36 : ¬ (((1 + 0) + 1) ≤ 1) := of_decide_eq_false c_36
          refine ml_st (S' := (40, [], [.int 1], M)) rfl rfl rfl ?_
          refine ml_st (S' := (44, [], [.int 1], M)) rfl rfl rfl ?_
          exact ml_ret rfl (r_z (Or.inr rfl)) (⟨⟨_, rfl, Or.inr rfl⟩, rfl⟩)
    · have c_14 : ¬ ((x1 &&& x3) = 0) := of_decide_eq_false c_14
      refine ml_st (S' := (18, [(0, .int x1), (2, .int x3), (3, .int x4)], [.int 1, .int 1], M)) rfl rfl rfl ?_
      refine ml_st (S' := (22, [(0, .int x1), (3, .int x4)], [.int 1, .int 1], M)) rfl rfl rfl ?_
      refine ml_blk 3 (S' := (25, [(0, .int x1), (3, .int x4)], [.int x4, .int x1, .int (1 + 1)], M)) rfl ?_
      refine ml_st (S' := (26, [(0, .int x1), (3, .int x4)], [.int (x1 &&& x4), .int (1 + 1)], M)) rfl rfl rfl ?_
      refine ml_if (S1 := (33, [(0, .int x1), (3, .int x4)], [.int (1 + 1)], M)) (S2 := (29, [(0, .int x1), (3, .int x4)], [.int (1 + 1)], M)) rfl rfl rfl (fun c_26 => ?_) (fun c_26 => ?_)
      · have c_26 : (x1 &&& x4) = 0 := of_decide_eq_true c_26
        refine ml_st (S' := (34, [], [.int 0, .int (1 + 1)], M)) rfl rfl rfl ?_
        refine ml_blk 2 (S' := (36, [], [.int 1, .int ((1 + 1) + 0)], M)) rfl ?_
        refine ml_if2 (S1 := (43, [], [], M)) (S2 := (39, [], [], M)) rfl rfl rfl (fun c_36 => ?_) (fun c_36 => ?_)
        · have c_36 : ((1 + 1) + 0) ≤ 1 := of_decide_eq_true c_36
          refine ml_st (S' := (44, [], [.int 0], M)) rfl rfl rfl ?_
          exact ml_ret rfl (r_z (Or.inl rfl)) (⟨⟨_, rfl, Or.inl rfl⟩, rfl⟩)
        · have c_36 : ¬ (((1 + 1) + 0) ≤ 1) := of_decide_eq_false c_36
          refine ml_st (S' := (40, [], [.int 1], M)) rfl rfl rfl ?_
          refine ml_st (S' := (44, [], [.int 1], M)) rfl rfl rfl ?_
          exact ml_ret rfl (r_z (Or.inr rfl)) (⟨⟨_, rfl, Or.inr rfl⟩, rfl⟩)
      · have c_26 : ¬ ((x1 &&& x4) = 0) := of_decide_eq_false c_26
        refine ml_st (S' := (30, [(0, .int x1), (3, .int x4)], [.int 1, .int (1 + 1)], M)) rfl rfl rfl ?_
        refine ml_st (S' := (34, [], [.int 1, .int (1 + 1)], M)) rfl rfl rfl ?_
        refine ml_blk 2 (S' := (36, [], [.int 1, .int ((1 + 1) + 1)], M)) rfl ?_
        refine ml_if2 (S1 := (43, [], [], M)) (S2 := (39, [], [], M)) rfl rfl rfl (fun c_36 => ?_) (fun c_36 => ?_)
        · have c_36 : ((1 + 1) + 1) ≤ 1 := of_decide_eq_true c_36
          refine ml_st (S' := (44, [], [.int 0], M)) rfl rfl rfl ?_
          exact ml_ret rfl (r_z (Or.inl rfl)) (⟨⟨_, rfl, Or.inl rfl⟩, rfl⟩)
        · have c_36 : ¬ (((1 + 1) + 1) ≤ 1) := of_decide_eq_false c_36
          refine ml_st (S' := (40, [], [.int 1], M)) rfl rfl rfl ?_
          refine ml_st (S' := (44, [], [.int 1], M)) rfl rfl rfl ?_
          exact ml_ret rfl (r_z (Or.inr rfl)) (⟨⟨_, rfl, Or.inr rfl⟩, rfl⟩)
set_option maxHeartbeats 2000000 in
theorem rm_flagsFit {g : xe_G}  {m0 : Nat} {q : Nat → Nat} {z : Nat × Nat} {I : rI} {R : rR} {M : mi_H} {x1 x2 x3 mj : Int32}  (hR : RS g m0 q z I R M) (hk53 : I 53 = some mj) {d : Nat} (hd : 2 ≤ d) : mt (mT g) d 209 [.ref m0, .int x1, .int x2, .int x3] M (fun v M' => (∃ x : Int32, v = some (.int x) ∧ (x = 0 ∨ x = 1)) ∧ M' = M) := by
  obtain ⟨d, rfl⟩ : ∃ e, d = e + 1 := ⟨d - 1, by omega⟩
  refine mt_in (b := mb_209 g) rfl rfl ?_
  show ml (mT g) d (mb_209 g).2 (0, [(0, .ref m0), (1, .int x1), (2, .int x2), (3, .int x3)], [], M) _
  refine ml_st (S' := (1, [(0, .ref m0), (1, .int x1), (2, .int x2), (3, .int x3)], [.int x2], M)) rfl rfl rfl ?_
  refine ml_if (S1 := (28, [(0, .ref m0), (1, .int x1), (2, .int x2), (3, .int x3)], [], M)) (S2 := (4, [(0, .ref m0), (1, .int x1), (2, .int x2), (3, .int x3)], [], M)) rfl rfl rfl (fun c_1 => ?_) (fun c_1 => ?_)
  · have c_1 : x2 = 0 := of_decide_eq_true c_1
    refine ml_blk 3 (S' := (33, [(0, .ref m0), (1, .int x1), (2, .int x2), (3, .int x3)], [.int (x1 &&& 1024)], M)) rfl ?_
    have J_75 : ∀ (s75_0 : Int32), ml (mT g) d (mb_209 g).2 (75, [(0, .ref m0), (1, .int x1), (3, .int x3)], [.int s75_0], M) (fun v M' => (∃ x : Int32, v = some (.int x) ∧ (x = 0 ∨ x = 1)) ∧ M' = M) := by
      intro s75_0
      refine ml_st (S' := (77, [(4, .int s75_0), (0, .ref m0), (1, .int x1), (3, .int x3)], [], M)) rfl rfl rfl ?_
      refine ml_st (S' := (78, [(4, .int s75_0), (0, .ref m0), (1, .int x1), (3, .int x3)], [.int x3], M)) rfl rfl rfl ?_
      refine ml_if (S1 := (102, [(4, .int s75_0), (0, .ref m0), (1, .int x1), (3, .int x3)], [], M)) (S2 := (81, [(4, .int s75_0), (0, .ref m0), (1, .int x1), (3, .int x3)], [], M)) rfl rfl rfl (fun c_78 => ?_) (fun c_78 => ?_)
      · have c_78 : ¬ x3 = 0 := of_decide_eq_true c_78
        refine ml_blk 3 (S' := (107, [(4, .int s75_0), (0, .ref m0), (1, .int x1), (3, .int x3)], [.int (x1 &&& 308)], M)) rfl ?_
        refine ml_if (S1 := (112, [(4, .int s75_0), (0, .ref m0), (1, .int x1), (3, .int x3)], [], M)) (S2 := (110, [(4, .int s75_0), (0, .ref m0), (1, .int x1), (3, .int x3)], [], M)) rfl rfl rfl (fun c_107 => ?_) (fun c_107 => ?_)
        · have c_107 : (x1 &&& 308) = 0 := of_decide_eq_true c_107
          refine ml_st (S' := (113, [(4, .int s75_0), (0, .ref m0), (1, .int x1), (3, .int x3)], [.ref m0], M)) rfl rfl rfl ?_
          refine rg_int (S' := (116, [(4, .int s75_0), (0, .ref m0), (1, .int x1), (3, .int x3)], [.int mj], M)) rfl hR rfl (hk53) rfl ?_
          refine ml_st (S' := (118, [(4, .int s75_0), (0, .ref m0), (1, .int x1), (3, .int x3)], [.int 52, .int mj], M)) rfl rfl rfl ?_
          have J_172 : ml (mT g) d (mb_209 g).2 (172, [(4, .int s75_0)], [], M) (fun v M' => (∃ x : Int32, v = some (.int x) ∧ (x = 0 ∨ x = 1)) ∧ M' = M) := by
            refine ml_st (S' := (174, [(4, .int s75_0)], [.int s75_0], M)) rfl rfl rfl ?_
            refine ml_if (S1 := (181, [(4, .int s75_0)], [], M)) (S2 := (177, [(4, .int s75_0)], [], M)) rfl rfl rfl (fun c_174 => ?_) (fun c_174 => ?_)
            · have c_174 : ¬ s75_0 = 0 := of_decide_eq_true c_174
              refine ml_st (S' := (182, [], [.int 0], M)) rfl rfl rfl ?_
              exact ml_ret rfl (r_z (Or.inl rfl)) (⟨⟨_, rfl, Or.inl rfl⟩, rfl⟩)
            · have c_174 : ¬ (¬ s75_0 = 0) := of_decide_eq_false c_174
              refine ml_st (S' := (178, [(4, .int s75_0)], [.int 1], M)) rfl rfl rfl ?_
              refine ml_st (S' := (182, [], [.int 1], M)) rfl rfl rfl ?_
              exact ml_ret rfl (r_z (Or.inr rfl)) (⟨⟨_, rfl, Or.inr rfl⟩, rfl⟩)
          have J_170 : ml (mT g) d (mb_209 g).2 (170, [], [], M) (fun v M' => (∃ x : Int32, v = some (.int x) ∧ (x = 0 ∨ x = 1)) ∧ M' = M) := by
            refine ml_st (S' := (171, [], [.int 0], M)) rfl rfl rfl ?_
            exact ml_ret rfl (r_z (Or.inl rfl)) (⟨⟨_, rfl, Or.inl rfl⟩, rfl⟩)
          refine ml_if2 (S1 := (145, [(4, .int s75_0), (0, .ref m0), (1, .int x1), (3, .int x3)], [], M)) (S2 := (121, [(4, .int s75_0), (0, .ref m0), (1, .int x1), (3, .int x3)], [], M)) rfl rfl rfl (fun c_118 => ?_) (fun c_118 => ?_)
          · have c_118 : 52 ≤ mj := of_decide_eq_true c_118
            refine ml_blk 3 (S' := (148, [(4, .int s75_0), (0, .ref m0), (1, .int x1), (3, .int x3)], [.int (x1 &&& 1)], M)) rfl ?_
            have J_156 : ∀ (s156_0 : Int32), ml (mT g) d (mb_209 g).2 (156, [(1, .int x1), (4, .int s75_0)], [.int s156_0], M) (fun v M' => (∃ x : Int32, v = some (.int x) ∧ (x = 0 ∨ x = 1)) ∧ M' = M) := by
              intro s156_0
              refine ml_blk 3 (S' := (159, [(1, .int x1), (4, .int s75_0)], [.int (x1 &&& 2), .int s156_0], M)) rfl ?_
              have J_167 : ∀ (s167_0 : Int32), ml (mT g) d (mb_209 g).2 (167, [(4, .int s75_0)], [.int s167_0, .int s156_0], M) (fun v M' => (∃ x : Int32, v = some (.int x) ∧ (x = 0 ∨ x = 1)) ∧ M' = M) := by
                intro s167_0
                refine ml_if2 (S1 := (172, [(4, .int s75_0)], [], M)) (S2 := (170, [], [], M)) rfl rfl rfl (fun c_167 => ?_) (fun c_167 => ?_)
                · have c_167 : ¬ s156_0 = s167_0 := of_decide_eq_true c_167
                  exact J_172 
                · have c_167 : ¬ (¬ s156_0 = s167_0) := of_decide_eq_false c_167
                  exact J_170 
              refine ml_if (S1 := (166, [(1, .int x1), (4, .int s75_0)], [.int s156_0], M)) (S2 := (162, [(1, .int x1), (4, .int s75_0)], [.int s156_0], M)) rfl rfl rfl (fun c_159 => ?_) (fun c_159 => ?_)
              · have c_159 : (x1 &&& 2) = 0 := of_decide_eq_true c_159
                refine ml_st (S' := (167, [(4, .int s75_0)], [.int 0, .int s156_0], M)) rfl rfl rfl ?_
                exact J_167 0
              · have c_159 : ¬ ((x1 &&& 2) = 0) := of_decide_eq_false c_159
                refine ml_st (S' := (163, [(1, .int x1), (4, .int s75_0)], [.int 1, .int s156_0], M)) rfl rfl rfl ?_
                refine ml_st (S' := (167, [(4, .int s75_0)], [.int 1, .int s156_0], M)) rfl rfl rfl ?_
                exact J_167 1
            refine ml_if (S1 := (155, [(4, .int s75_0), (0, .ref m0), (1, .int x1), (3, .int x3)], [], M)) (S2 := (151, [(4, .int s75_0), (0, .ref m0), (1, .int x1), (3, .int x3)], [], M)) rfl rfl rfl (fun c_148 => ?_) (fun c_148 => ?_)
            · have c_148 : (x1 &&& 1) = 0 := of_decide_eq_true c_148
              refine ml_st (S' := (156, [(1, .int x1), (4, .int s75_0)], [.int 0], M)) rfl rfl rfl ?_
              exact J_156 0
            · have c_148 : ¬ ((x1 &&& 1) = 0) := of_decide_eq_false c_148
              refine ml_st (S' := (152, [(4, .int s75_0), (0, .ref m0), (1, .int x1), (3, .int x3)], [.int 1], M)) rfl rfl rfl ?_
              refine ml_st (S' := (156, [(1, .int x1), (4, .int s75_0)], [.int 1], M)) rfl rfl rfl ?_
              exact J_156 1
          · have c_118 : ¬ (52 ≤ mj) := of_decide_eq_false c_118
            refine ml_blk 3 (S' := (124, [(4, .int s75_0), (0, .ref m0), (1, .int x1), (3, .int x3)], [.int (x1 &&& 1)], M)) rfl ?_
            refine ml_if (S1 := (170, [], [], M)) (S2 := (127, [(4, .int s75_0), (0, .ref m0), (1, .int x1), (3, .int x3)], [], M)) rfl rfl rfl (fun c_124 => ?_) (fun c_124 => ?_)
            · have c_124 : (x1 &&& 1) = 0 := of_decide_eq_true c_124
              exact J_170 
            · have c_124 : ¬ ((x1 &&& 1) = 0) := of_decide_eq_false c_124
              refine ml_blk 3 (S' := (132, [(4, .int s75_0), (0, .ref m0), (1, .int x1), (3, .int x3)], [.int (x1 &&& 1024)], M)) rfl ?_
              refine ml_if (S1 := (170, [], [], M)) (S2 := (135, [(4, .int s75_0), (0, .ref m0), (1, .int x1), (3, .int x3)], [], M)) rfl rfl rfl (fun c_132 => ?_) (fun c_132 => ?_)
              · have c_132 : (x1 &&& 1024) = 0 := of_decide_eq_true c_132
                exact J_170 
              · have c_132 : ¬ ((x1 &&& 1024) = 0) := of_decide_eq_false c_132
                refine ml_blk 3 (S' := (139, [(4, .int s75_0), (0, .ref m0), (1, .int x1), (3, .int x3)], [.int (x1 &&& 8)], M)) rfl ?_
                refine ml_if (S1 := (172, [(4, .int s75_0)], [], M)) (S2 := (142, [(4, .int s75_0), (0, .ref m0), (1, .int x1), (3, .int x3)], [], M)) rfl rfl rfl (fun c_139 => ?_) (fun c_139 => ?_)
                · have c_139 : (x1 &&& 8) = 0 := of_decide_eq_true c_139
                  exact J_172 
                · have c_139 : ¬ ((x1 &&& 8) = 0) := of_decide_eq_false c_139
                  refine ml_st (S' := (170, [], [], M)) rfl rfl rfl ?_
                  exact J_170 
        · have c_107 : ¬ ((x1 &&& 308) = 0) := of_decide_eq_false c_107
          refine ml_st (S' := (111, [(4, .int s75_0), (0, .ref m0), (1, .int x1), (3, .int x3)], [.int 0], M)) rfl rfl rfl ?_
          exact ml_ret rfl (r_z (Or.inl rfl)) (⟨⟨_, rfl, Or.inl rfl⟩, rfl⟩)
      · have c_78 : ¬ (¬ x3 = 0) := of_decide_eq_false c_78
        refine ml_blk 3 (S' := (84, [(4, .int s75_0), (0, .ref m0), (1, .int x1), (3, .int x3)], [.int 2, .int 1, .int x1], M)) rfl ?_
        refine ml_st (S' := (85, [(4, .int s75_0), (0, .ref m0), (1, .int x1), (3, .int x3)], [.int 4, .int 2, .int 1, .int x1], M)) rfl rfl rfl ?_
        refine ml_call (a := [.int x1, .int 1, .int 2, .int 4]) (rest := []) rfl (rfl) rfl rfl (rm_several hR (by omega)) (fun v11 M12 h13 => ?_)
        obtain ⟨⟨u14, rfl, z15⟩, h13⟩ := h13
        rw [h13]
        show ml _ _ _ (88, [(4, .int s75_0), (0, .ref m0), (1, .int x1), (3, .int x3)], [.int u14], M) _
        refine ml_if (S1 := (100, [], [], M)) (S2 := (91, [(4, .int s75_0), (0, .ref m0), (1, .int x1), (3, .int x3)], [], M)) rfl rfl rfl (fun c_88 => ?_) (fun c_88 => ?_)
        · have c_88 : ¬ u14 = 0 := of_decide_eq_true c_88
          refine ml_st (S' := (101, [], [.int 0], M)) rfl rfl rfl ?_
          exact ml_ret rfl (r_z (Or.inl rfl)) (⟨⟨_, rfl, Or.inl rfl⟩, rfl⟩)
        · have c_88 : ¬ (¬ u14 = 0) := of_decide_eq_false c_88
          refine ml_st (S' := (93, [(4, .int s75_0), (0, .ref m0), (1, .int x1), (3, .int x3)], [.int s75_0], M)) rfl rfl rfl ?_
          refine ml_if (S1 := (100, [], [], M)) (S2 := (96, [(4, .int s75_0), (0, .ref m0), (1, .int x1), (3, .int x3)], [], M)) rfl rfl rfl (fun c_93 => ?_) (fun c_93 => ?_)
          · have c_93 : ¬ s75_0 = 0 := of_decide_eq_true c_93
            refine ml_st (S' := (101, [], [.int 0], M)) rfl rfl rfl ?_
            exact ml_ret rfl (r_z (Or.inl rfl)) (⟨⟨_, rfl, Or.inl rfl⟩, rfl⟩)
          · have c_93 : ¬ (¬ s75_0 = 0) := of_decide_eq_false c_93
            refine ml_st (S' := (97, [(4, .int s75_0), (0, .ref m0), (1, .int x1), (3, .int x3)], [.int 1], M)) rfl rfl rfl ?_
            refine ml_st (S' := (101, [], [.int 1], M)) rfl rfl rfl ?_
            exact ml_ret rfl (r_z (Or.inr rfl)) (⟨⟨_, rfl, Or.inr rfl⟩, rfl⟩)
    refine ml_if (S1 := (74, [(0, .ref m0), (1, .int x1), (3, .int x3)], [], M)) (S2 := (36, [(0, .ref m0), (1, .int x1), (2, .int x2), (3, .int x3)], [], M)) rfl rfl rfl (fun c_33 => ?_) (fun c_33 => ?_)
    · have c_33 : (x1 &&& 1024) = 0 := of_decide_eq_true c_33
      refine ml_st (S' := (75, [(0, .ref m0), (1, .int x1), (3, .int x3)], [.int 0], M)) rfl rfl rfl ?_
      exact J_75 0
    · have c_33 : ¬ ((x1 &&& 1024) = 0) := of_decide_eq_false c_33
      refine ml_blk 3 (S' := (41, [(0, .ref m0), (1, .int x1), (2, .int x2), (3, .int x3)], [.int (x1 &&& 314)], M)) rfl ?_
      refine ml_if (S1 := (70, [(0, .ref m0), (1, .int x1), (3, .int x3)], [], M)) (S2 := (44, [(0, .ref m0), (1, .int x1), (2, .int x2), (3, .int x3)], [], M)) rfl rfl rfl (fun c_41 => ?_) (fun c_41 => ?_)
      · have c_41 : ¬ (x1 &&& 314) = 0 := of_decide_eq_true c_41
        refine ml_st (S' := (71, [(0, .ref m0), (1, .int x1), (3, .int x3)], [.int 1], M)) rfl rfl rfl ?_
        refine ml_st (S' := (75, [(0, .ref m0), (1, .int x1), (3, .int x3)], [.int 1], M)) rfl rfl rfl ?_
        exact J_75 1
      · have c_41 : ¬ (¬ (x1 &&& 314) = 0) := of_decide_eq_false c_41
        refine ml_st (S' := (45, [(0, .ref m0), (1, .int x1), (2, .int x2), (3, .int x3)], [.ref m0], M)) rfl rfl rfl ?_
        refine rg_int (S' := (48, [(0, .ref m0), (1, .int x1), (2, .int x2), (3, .int x3)], [.int mj], M)) rfl hR rfl (hk53) rfl ?_
        refine ml_st (S' := (50, [(0, .ref m0), (1, .int x1), (2, .int x2), (3, .int x3)], [.int 46, .int mj], M)) rfl rfl rfl ?_
        refine ml_if2 (S1 := (74, [(0, .ref m0), (1, .int x1), (3, .int x3)], [], M)) (S2 := (53, [(0, .ref m0), (1, .int x1), (2, .int x2), (3, .int x3)], [], M)) rfl rfl rfl (fun c_50 => ?_) (fun c_50 => ?_)
        · have c_50 : mj < 46 := of_decide_eq_true c_50
          refine ml_st (S' := (75, [(0, .ref m0), (1, .int x1), (3, .int x3)], [.int 0], M)) rfl rfl rfl ?_
          exact J_75 0
        · have c_50 : ¬ (mj < 46) := of_decide_eq_false c_50
          refine ml_st (S' := (54, [(0, .ref m0), (1, .int x1), (2, .int x2), (3, .int x3)], [.ref m0], M)) rfl rfl rfl ?_
          refine rg_int (S' := (57, [(0, .ref m0), (1, .int x1), (2, .int x2), (3, .int x3)], [.int mj], M)) rfl hR rfl (hk53) rfl ?_
          refine ml_st (S' := (59, [(0, .ref m0), (1, .int x1), (2, .int x2), (3, .int x3)], [.int 60, .int mj], M)) rfl rfl rfl ?_
          refine ml_if2 (S1 := (74, [(0, .ref m0), (1, .int x1), (3, .int x3)], [], M)) (S2 := (62, [(0, .ref m0), (1, .int x1), (2, .int x2), (3, .int x3)], [], M)) rfl rfl rfl (fun c_59 => ?_) (fun c_59 => ?_)
          · have c_59 : 60 < mj := of_decide_eq_true c_59
            refine ml_st (S' := (75, [(0, .ref m0), (1, .int x1), (3, .int x3)], [.int 0], M)) rfl rfl rfl ?_
            exact J_75 0
          · have c_59 : ¬ (60 < mj) := of_decide_eq_false c_59
            refine ml_blk 3 (S' := (67, [(0, .ref m0), (1, .int x1), (2, .int x2), (3, .int x3)], [.int (x1 &&& 2048)], M)) rfl ?_
            refine ml_if (S1 := (74, [(0, .ref m0), (1, .int x1), (3, .int x3)], [], M)) (S2 := (70, [(0, .ref m0), (1, .int x1), (3, .int x3)], [], M)) rfl rfl rfl (fun c_67 => ?_) (fun c_67 => ?_)
            · have c_67 : (x1 &&& 2048) = 0 := of_decide_eq_true c_67
              refine ml_st (S' := (75, [(0, .ref m0), (1, .int x1), (3, .int x3)], [.int 0], M)) rfl rfl rfl ?_
              exact J_75 0
            · have c_67 : ¬ ((x1 &&& 2048) = 0) := of_decide_eq_false c_67
              refine ml_st (S' := (71, [(0, .ref m0), (1, .int x1), (3, .int x3)], [.int 1], M)) rfl rfl rfl ?_
              refine ml_st (S' := (75, [(0, .ref m0), (1, .int x1), (3, .int x3)], [.int 1], M)) rfl rfl rfl ?_
              exact J_75 1
  · have c_1 : ¬ (x2 = 0) := of_decide_eq_false c_1
    refine ml_blk 3 (S' := (7, [(0, .ref m0), (1, .int x1), (2, .int x2), (3, .int x3)], [.int 2, .int 1, .int x1], M)) rfl ?_
    refine ml_st (S' := (8, [(0, .ref m0), (1, .int x1), (2, .int x2), (3, .int x3)], [.int 4, .int 2, .int 1, .int x1], M)) rfl rfl rfl ?_
    refine ml_call (a := [.int x1, .int 1, .int 2, .int 4]) (rest := []) rfl (rfl) rfl rfl (rm_several hR (by omega)) (fun v16 M17 h18 => ?_)
    obtain ⟨⟨u19, rfl, z20⟩, h18⟩ := h18
    rw [h18]
    show ml _ _ _ (11, [(0, .ref m0), (1, .int x1), (2, .int x2), (3, .int x3)], [.int u19], M) _
    refine ml_if (S1 := (26, [], [], M)) (S2 := (14, [(0, .ref m0), (1, .int x1), (2, .int x2), (3, .int x3)], [], M)) rfl rfl rfl (fun c_11 => ?_) (fun c_11 => ?_)
    · have c_11 : ¬ u19 = 0 := of_decide_eq_true c_11
      refine ml_st (S' := (27, [], [.int 0], M)) rfl rfl rfl ?_
      exact ml_ret rfl (r_z (Or.inl rfl)) (⟨⟨_, rfl, Or.inl rfl⟩, rfl⟩)
    · have c_11 : ¬ (¬ u19 = 0) := of_decide_eq_false c_11
      refine ml_blk 3 (S' := (19, [(0, .ref m0), (1, .int x1), (2, .int x2), (3, .int x3)], [.int (x1 &&& 1400)], M)) rfl ?_
      refine ml_if (S1 := (26, [], [], M)) (S2 := (22, [(0, .ref m0), (1, .int x1), (2, .int x2), (3, .int x3)], [], M)) rfl rfl rfl (fun c_19 => ?_) (fun c_19 => ?_)
      · have c_19 : ¬ (x1 &&& 1400) = 0 := of_decide_eq_true c_19
        refine ml_st (S' := (27, [], [.int 0], M)) rfl rfl rfl ?_
        exact ml_ret rfl (r_z (Or.inl rfl)) (⟨⟨_, rfl, Or.inl rfl⟩, rfl⟩)
      · have c_19 : ¬ (¬ (x1 &&& 1400) = 0) := of_decide_eq_false c_19
        refine ml_st (S' := (23, [(0, .ref m0), (1, .int x1), (2, .int x2), (3, .int x3)], [.int 1], M)) rfl rfl rfl ?_
        refine ml_st (S' := (27, [], [.int 1], M)) rfl rfl rfl ?_
        exact ml_ret rfl (r_z (Or.inr rfl)) (⟨⟨_, rfl, Or.inr rfl⟩, rfl⟩)
theorem nI_back {k : Int32} (h : 0 ≤ k.toInt) (h1 : k.toInt ≤ 65535) : nI k.toInt.toNat = k := by
  apply Int32.toInt_inj.mp
  rw [nI_val (by omega)]
  omega

