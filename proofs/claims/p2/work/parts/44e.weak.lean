set_option maxHeartbeats 2000000 in
theorem tw_Cl_has {g : xe_G} {M : mi_H} {Y : yT} {c b da n : Nat} {x1 : Int32}  (hW : WF g Y M) (hY0 : Y.1 c = some (3, [b, da, n])) (hY1 : Y.1 b = some (1, [da, n])) {d : Nat} (hd : 2 ≤ d) : mt (mT g) d 71 [.ref c, .int x1] M (pZ M) := by
  obtain ⟨d, rfl⟩ : ∃ e, d = e + 1 := ⟨d - 1, by omega⟩
  have hS : st g Y M M := st.rf hW
  refine mt_in (b := mb_71 g) rfl rfl ?_
  show ml (mT g) d (mb_71 g).2 (0, [(0, .ref c), (1, .int x1)], [], M) _
  refine ml_st (S' := (1, [(0, .ref c), (1, .int x1)], [.ref c], M)) rfl rfl rfl ?_
  refine tg_ref (S' := (4, [(0, .ref c), (1, .int x1)], [.ref b], M)) rfl hS.1 hY0 (by decide) rfl rfl ?_
  refine ml_st (S' := (5, [(0, .ref c), (1, .int x1)], [.ref c, .ref b], M)) rfl rfl rfl ?_
  refine tg_int rfl hS.1 hY0 (by decide) rfl (fun u1 g2 => ?_)
  show ml _ _ _ (8, [(0, .ref c), (1, .int x1)], [.int u1, .ref b], M) _
  refine ml_call (a := [.ref b, .int u1]) (rest := []) rfl (okc_t rfl rfl rfl hS.1 hY1 (by decide)) rfl rfl (tq_u2 hS.1 hY1 (by omega)) (fun v3 M4 h5 => ?_)
  obtain ⟨⟨u6, rfl⟩, h5⟩ := h5
  rw [h5]
  show ml _ _ _ (11, [(0, .ref c), (1, .int x1)], [.int u6], M) _
  refine ml_blk 2 (S' := (13, [(0, .ref c), (1, .int x1)], [.int (u6 &&& x1)], M)) rfl ?_
  refine ml_if (S1 := (20, [(0, .ref c), (1, .int x1)], [], M)) (S2 := (16, [(0, .ref c), (1, .int x1)], [], M)) rfl rfl rfl (fun c_13 => ?_) (fun c_13 => ?_)
  · have c_13 : (u6 &&& x1) = 0 := of_decide_eq_true c_13
    refine ml_st (S' := (21, [], [.int 0], M)) rfl rfl rfl ?_
    exact ml_ret rfl (r_z (Or.inl rfl)) (⟨⟨_, rfl, Or.inl rfl⟩, rfl⟩)
  · have c_13 : ¬ ((u6 &&& x1) = 0) := of_decide_eq_false c_13
    refine ml_st (S' := (17, [(0, .ref c), (1, .int x1)], [.int 1], M)) rfl rfl rfl ?_
    refine ml_st (S' := (21, [], [.int 1], M)) rfl rfl rfl ?_
    exact ml_ret rfl (r_z (Or.inr rfl)) (⟨⟨_, rfl, Or.inr rfl⟩, rfl⟩)
