set_option maxHeartbeats 2000000 in
theorem tw_Cl_hasAll {g : xe_G} {M : mi_H} {Y : yT} {x1 x2 : Int32}  (hW : WF g Y M) {d : Nat} (hd : 1 ≤ d) : mt (mT g) d 58 [.int x1, .int x2] M (pZ M) := by
  obtain ⟨d, rfl⟩ : ∃ e, d = e + 1 := ⟨d - 1, by omega⟩
  have hS : st g Y M M := st.rf hW
  refine mt_in (b := mb_58 g) rfl rfl ?_
  show ml (mT g) d (mb_58 g).2 (0, [(0, .int x1), (1, .int x2)], [], M) _
  refine ml_blk 3 (S' := (3, [(0, .int x1), (1, .int x2)], [.int (x1 &&& x2)], M)) rfl ?_
  refine ml_st (S' := (4, [(0, .int x1), (1, .int x2)], [.int x2, .int (x1 &&& x2)], M)) rfl rfl rfl ?_
  refine ml_if2 (S1 := (11, [(0, .int x1), (1, .int x2)], [], M)) (S2 := (7, [(0, .int x1), (1, .int x2)], [], M)) rfl rfl rfl (fun c_4 => ?_) (fun c_4 => ?_)
  · have c_4 : ¬ (x1 &&& x2) = x2 := of_decide_eq_true c_4
    refine ml_st (S' := (12, [], [.int 0], M)) rfl rfl rfl ?_
    exact ml_ret rfl (r_z (Or.inl rfl)) (⟨⟨_, rfl, Or.inl rfl⟩, rfl⟩)
  · have c_4 : ¬ (¬ (x1 &&& x2) = x2) := of_decide_eq_false c_4
    refine ml_st (S' := (8, [(0, .int x1), (1, .int x2)], [.int 1], M)) rfl rfl rfl ?_
    refine ml_st (S' := (12, [], [.int 1], M)) rfl rfl rfl ?_
    exact ml_ret rfl (r_z (Or.inr rfl)) (⟨⟨_, rfl, Or.inr rfl⟩, rfl⟩)
