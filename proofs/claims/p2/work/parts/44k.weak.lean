set_option maxHeartbeats 2000000 in
theorem tw_Cl_classFlagsHold {g : xe_G} {M : mi_H} {Y : yT} {x1 : Int32}  (hW : WF g Y M) {d : Nat} (hd : 2 ≤ d) : mt (mT g) d 53 [.int x1] M (pZ M) := by
  obtain ⟨d, rfl⟩ : ∃ e, d = e + 1 := ⟨d - 1, by omega⟩
  have hS : st g Y M M := st.rf hW
  refine mt_in (b := mb_53 g) rfl rfl ?_
  show ml (mT g) d (mb_53 g).2 (0, [(0, .int x1)], [], M) _
  refine ml_blk 3 (S' := (4, [(0, .int x1)], [.int (x1 &&& 32768)], M)) rfl ?_
  refine ml_if (S1 := (9, [(0, .int x1)], [], M)) (S2 := (7, [(0, .int x1)], [], M)) rfl rfl rfl (fun c_4 => ?_) (fun c_4 => ?_)
  · have c_4 : (x1 &&& 32768) = 0 := of_decide_eq_true c_4
    refine ml_blk 3 (S' := (14, [(0, .int x1)], [.int (x1 &&& 512)], M)) rfl ?_
    refine ml_if (S1 := (39, [(0, .int x1)], [], M)) (S2 := (17, [(0, .int x1)], [], M)) rfl rfl rfl (fun c_14 => ?_) (fun c_14 => ?_)
    · have c_14 : (x1 &&& 512) = 0 := of_decide_eq_true c_14
      refine ml_blk 3 (S' := (44, [(0, .int x1)], [.int (x1 &&& 8192)], M)) rfl ?_
      refine ml_if (S1 := (61, [], [], M)) (S2 := (47, [(0, .int x1)], [], M)) rfl rfl rfl (fun c_44 => ?_) (fun c_44 => ?_)
      · have c_44 : ¬ (x1 &&& 8192) = 0 := of_decide_eq_true c_44
        refine ml_st (S' := (62, [], [.int 0], M)) rfl rfl rfl ?_
        exact ml_ret rfl (r_z (Or.inl rfl)) (⟨⟨_, rfl, Or.inl rfl⟩, rfl⟩)
      · have c_44 : ¬ (¬ (x1 &&& 8192) = 0) := of_decide_eq_false c_44
        refine ml_blk 2 (S' := (51, [(0, .int x1)], [.int 1040, .int x1], M)) rfl ?_
        refine ml_call (a := [.int x1, .int 1040]) (rest := []) rfl (rfl) rfl rfl (tw_Cl_hasAll hS.1  (by omega)) (fun v1 M2 h3 => ?_)
        obtain ⟨⟨u4, rfl, z5⟩, h3⟩ := h3
        rw [h3]
        show ml _ _ _ (54, [(0, .int x1)], [.int u4], M) _
        refine ml_if (S1 := (61, [], [], M)) (S2 := (57, [(0, .int x1)], [], M)) rfl rfl rfl (fun c_54 => ?_) (fun c_54 => ?_)
        · have c_54 : ¬ u4 = 0 := of_decide_eq_true c_54
          refine ml_st (S' := (62, [], [.int 0], M)) rfl rfl rfl ?_
          exact ml_ret rfl (r_z (Or.inl rfl)) (⟨⟨_, rfl, Or.inl rfl⟩, rfl⟩)
        · have c_54 : ¬ (¬ u4 = 0) := of_decide_eq_false c_54
          refine ml_st (S' := (58, [(0, .int x1)], [.int 1], M)) rfl rfl rfl ?_
          refine ml_st (S' := (62, [], [.int 1], M)) rfl rfl rfl ?_
          exact ml_ret rfl (r_z (Or.inr rfl)) (⟨⟨_, rfl, Or.inr rfl⟩, rfl⟩)
    · have c_14 : ¬ ((x1 &&& 512) = 0) := of_decide_eq_false c_14
      refine ml_blk 3 (S' := (22, [(0, .int x1)], [.int (x1 &&& 1024)], M)) rfl ?_
      refine ml_if (S1 := (37, [], [], M)) (S2 := (25, [(0, .int x1)], [], M)) rfl rfl rfl (fun c_22 => ?_) (fun c_22 => ?_)
      · have c_22 : (x1 &&& 1024) = 0 := of_decide_eq_true c_22
        refine ml_st (S' := (38, [], [.int 0], M)) rfl rfl rfl ?_
        exact ml_ret rfl (r_z (Or.inl rfl)) (⟨⟨_, rfl, Or.inl rfl⟩, rfl⟩)
      · have c_22 : ¬ ((x1 &&& 1024) = 0) := of_decide_eq_false c_22
        refine ml_blk 3 (S' := (30, [(0, .int x1)], [.int (x1 &&& 16432)], M)) rfl ?_
        refine ml_if (S1 := (37, [], [], M)) (S2 := (33, [(0, .int x1)], [], M)) rfl rfl rfl (fun c_30 => ?_) (fun c_30 => ?_)
        · have c_30 : ¬ (x1 &&& 16432) = 0 := of_decide_eq_true c_30
          refine ml_st (S' := (38, [], [.int 0], M)) rfl rfl rfl ?_
          exact ml_ret rfl (r_z (Or.inl rfl)) (⟨⟨_, rfl, Or.inl rfl⟩, rfl⟩)
        · have c_30 : ¬ (¬ (x1 &&& 16432) = 0) := of_decide_eq_false c_30
          refine ml_st (S' := (34, [(0, .int x1)], [.int 1], M)) rfl rfl rfl ?_
          refine ml_st (S' := (38, [], [.int 1], M)) rfl rfl rfl ?_
          exact ml_ret rfl (r_z (Or.inr rfl)) (⟨⟨_, rfl, Or.inr rfl⟩, rfl⟩)
  · have c_4 : ¬ ((x1 &&& 32768) = 0) := of_decide_eq_false c_4
    refine ml_st (S' := (8, [(0, .int x1)], [.int 0], M)) rfl rfl rfl ?_
    exact ml_ret rfl (r_z (Or.inl rfl)) (⟨⟨_, rfl, Or.inl rfl⟩, rfl⟩)
