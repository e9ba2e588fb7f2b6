set_option maxHeartbeats 2000000 in
theorem tw_Cl_hasOneAccessAtMost {g : xe_G} {M : mi_H} {Y : yT} {x1 : Int32}  (hW : WF g Y M) {d : Nat} (hd : 2 ≤ d) : mt (mT g) d 59 [.int x1] M (pZ M) := by
  obtain ⟨d, rfl⟩ : ∃ e, d = e + 1 := ⟨d - 1, by omega⟩
  have hS : st g Y M M := st.rf hW
  refine mt_in (b := mb_59 g) rfl rfl ?_
  show ml (mT g) d (mb_59 g).2 (0, [(0, .int x1)], [], M) _
  refine ml_blk 3 (S' := (4, [(0, .int x1)], [.int (x1 &&& 7)], M)) rfl ?_
  refine ml_call (a := [.int (x1 &&& 7)]) (rest := []) rfl (rfl) rfl rfl (tw_J_bitCount hS.1  (by omega)) (fun v1 M2 h3 => ?_)
  obtain ⟨⟨u4, rfl⟩, h3⟩ := h3
  rw [h3]
  show ml _ _ _ (7, [(0, .int x1)], [.int u4], M) _
  refine ml_st (S' := (8, [(0, .int x1)], [.int 1, .int u4], M)) rfl rfl rfl ?_
  refine ml_if2 (S1 := (15, [(0, .int x1)], [], M)) (S2 := (11, [(0, .int x1)], [], M)) rfl rfl rfl (fun c_8 => ?_) (fun c_8 => ?_)
  · have c_8 : 1 < u4 := of_decide_eq_true c_8
    refine ml_st (S' := (16, [], [.int 0], M)) rfl rfl rfl ?_
    exact ml_ret rfl (r_z (Or.inl rfl)) (⟨⟨_, rfl, Or.inl rfl⟩, rfl⟩)
  · have c_8 : ¬ (1 < u4) := of_decide_eq_false c_8
    refine ml_st (S' := (12, [(0, .int x1)], [.int 1], M)) rfl rfl rfl ?_
    refine ml_st (S' := (16, [], [.int 1], M)) rfl rfl rfl ?_
    exact ml_ret rfl (r_z (Or.inr rfl)) (⟨⟨_, rfl, Or.inr rfl⟩, rfl⟩)
