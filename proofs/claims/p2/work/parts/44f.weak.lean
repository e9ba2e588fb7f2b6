set_option maxHeartbeats 2000000 in
theorem tw_Cl_attributeNumber {g : xe_G} {M : mi_H} {Y : yT} {c b da n : Nat} {x1 : Int32}  (hW : WF g Y M) (hY0 : Y.1 c = some (3, [b, da, n])) (hY1 : Y.1 b = some (1, [da, n])) {d : Nat} (hd : 1 ≤ d) : mt (mT g) d 69 [.ref c, .int x1] M (pI M) := by
  obtain ⟨d, rfl⟩ : ∃ e, d = e + 1 := ⟨d - 1, by omega⟩
  have hS : st g Y M M := st.rf hW
  refine mt_in (b := mb_69 g) rfl rfl ?_
  show ml (mT g) d (mb_69 g).2 (0, [(0, .ref c), (1, .int x1)], [], M) _
  refine ml_st (S' := (1, [(0, .ref c), (1, .int x1)], [.int x1], M)) rfl rfl rfl ?_
  refine ml_sw rfl (fun t_1 ht_1 => ?_)
  have ht_1 : t_1 ∈ [60, 65, 70, 75, 80, 85] := mi_sw_sub ht_1 (by decide)
  simp only [List.mem_cons, List.not_mem_nil, or_false] at ht_1
  rcases ht_1 with rfl | rfl | rfl | rfl | rfl | rfl
  · show ml _ _ _ (60, [(0, .ref c), (1, .int x1)], [], M) _
    refine ml_st (S' := (61, [(0, .ref c), (1, .int x1)], [.ref c], M)) rfl rfl rfl ?_
    refine tg_int rfl hS.1 hY0 (by decide) rfl (fun u1 g2 => ?_)
    show ml _ _ _ (64, [(0, .ref c), (1, .int x1)], [.int u1], M) _
    exact ml_ret rfl (rfl) (⟨⟨_, rfl⟩, rfl⟩)
  · show ml _ _ _ (65, [(0, .ref c), (1, .int x1)], [], M) _
    refine ml_st (S' := (66, [(0, .ref c), (1, .int x1)], [.ref c], M)) rfl rfl rfl ?_
    refine tg_int rfl hS.1 hY0 (by decide) rfl (fun u3 g4 => ?_)
    show ml _ _ _ (69, [(0, .ref c), (1, .int x1)], [.int u3], M) _
    exact ml_ret rfl (rfl) (⟨⟨_, rfl⟩, rfl⟩)
  · show ml _ _ _ (70, [(0, .ref c), (1, .int x1)], [], M) _
    refine ml_st (S' := (71, [(0, .ref c), (1, .int x1)], [.ref c], M)) rfl rfl rfl ?_
    refine tg_int rfl hS.1 hY0 (by decide) rfl (fun u5 g6 => ?_)
    show ml _ _ _ (74, [(0, .ref c), (1, .int x1)], [.int u5], M) _
    exact ml_ret rfl (rfl) (⟨⟨_, rfl⟩, rfl⟩)
  · show ml _ _ _ (75, [(0, .ref c), (1, .int x1)], [], M) _
    refine ml_st (S' := (76, [(0, .ref c), (1, .int x1)], [.ref c], M)) rfl rfl rfl ?_
    refine tg_int rfl hS.1 hY0 (by decide) rfl (fun u7 g8 => ?_)
    show ml _ _ _ (79, [(0, .ref c), (1, .int x1)], [.int u7], M) _
    exact ml_ret rfl (rfl) (⟨⟨_, rfl⟩, rfl⟩)
  · show ml _ _ _ (80, [(0, .ref c), (1, .int x1)], [], M) _
    refine ml_st (S' := (81, [(0, .ref c), (1, .int x1)], [.ref c], M)) rfl rfl rfl ?_
    refine tg_int rfl hS.1 hY0 (by decide) rfl (fun u9 g10 => ?_)
    show ml _ _ _ (84, [(0, .ref c), (1, .int x1)], [.int u9], M) _
    exact ml_ret rfl (rfl) (⟨⟨_, rfl⟩, rfl⟩)
  · show ml _ _ _ (85, [(0, .ref c), (1, .int x1)], [], M) _
    refine ml_st (S' := (86, [(0, .ref c), (1, .int x1)], [.ref c], M)) rfl rfl rfl ?_
    refine tg_int rfl hS.1 hY0 (by decide) rfl (fun u11 g12 => ?_)
    show ml _ _ _ (89, [(0, .ref c), (1, .int x1)], [.int u11], M) _
    exact ml_ret rfl (rfl) (⟨⟨_, rfl⟩, rfl⟩)
