set_option maxHeartbeats 2000000 in
theorem tw_Me_has {g : xe_G} {M : mi_H} {Y : yT} {me da n : Nat} {x1 : Int32}  (hW : WF g Y M) (hY0 : Y.1 me = some (6, [da, n])) {d : Nat} (hd : 1 ≤ d) : mt (mT g) d 108 [.ref me, .int x1] M (pZ M) := by
  obtain ⟨d, rfl⟩ : ∃ e, d = e + 1 := ⟨d - 1, by omega⟩
  have hS : st g Y M M := st.rf hW
  refine mt_in (b := mb_108 g) rfl rfl ?_
  show ml (mT g) d (mb_108 g).2 (0, [(0, .ref me), (1, .int x1)], [], M) _
  refine ml_st (S' := (1, [(0, .ref me), (1, .int x1)], [.ref me], M)) rfl rfl rfl ?_
  refine tg_int rfl hS.1 hY0 (by decide) rfl (fun u1 g2 => ?_)
  show ml _ _ _ (4, [(0, .ref me), (1, .int x1)], [.int u1], M) _
  refine ml_blk 2 (S' := (6, [(0, .ref me), (1, .int x1)], [.int (u1 &&& x1)], M)) rfl ?_
  refine ml_if (S1 := (13, [(0, .ref me), (1, .int x1)], [], M)) (S2 := (9, [(0, .ref me), (1, .int x1)], [], M)) rfl rfl rfl (fun c_6 => ?_) (fun c_6 => ?_)
  · have c_6 : (u1 &&& x1) = 0 := of_decide_eq_true c_6
    refine ml_st (S' := (14, [], [.int 0], M)) rfl rfl rfl ?_
    exact ml_ret rfl (r_z (Or.inl rfl)) (⟨⟨_, rfl, Or.inl rfl⟩, rfl⟩)
  · have c_6 : ¬ ((u1 &&& x1) = 0) := of_decide_eq_false c_6
    refine ml_st (S' := (10, [(0, .ref me), (1, .int x1)], [.int 1], M)) rfl rfl rfl ?_
    refine ml_st (S' := (14, [], [.int 1], M)) rfl rfl rfl ?_
    exact ml_ret rfl (r_z (Or.inr rfl)) (⟨⟨_, rfl, Or.inr rfl⟩, rfl⟩)
