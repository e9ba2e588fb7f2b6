set_option maxHeartbeats 2000000 in
theorem tw_Cl_number {g : xe_G} {M : mi_H} {Y : yT} {c b da n : Nat} {x1 : Int32}  (hW : WF g Y M) (hY0 : Y.1 c = some (3, [b, da, n])) (hY1 : Y.1 b = some (1, [da, n])) {d : Nat} (hd : 2 ≤ d) : mt (mT g) d 73 [.ref c, .int x1] M (pI M) := by
  obtain ⟨d, rfl⟩ : ∃ e, d = e + 1 := ⟨d - 1, by omega⟩
  have hS : st g Y M M := st.rf hW
  refine mt_in (b := mb_73 g) rfl rfl ?_
  show ml (mT g) d (mb_73 g).2 (0, [(0, .ref c), (1, .int x1)], [], M) _
  refine ml_st (S' := (1, [(0, .ref c), (1, .int x1)], [.int x1], M)) rfl rfl rfl ?_
  refine ml_sw rfl (fun t_1 ht_1 => ?_)
  have ht_1 : t_1 ∈ [64, 72, 78, 84, 89, 101, 106, 111, 125, 139, 147] := mi_sw_sub ht_1 (by decide)
  simp only [List.mem_cons, List.not_mem_nil, or_false] at ht_1
  rcases ht_1 with rfl | rfl | rfl | rfl | rfl | rfl | rfl | rfl | rfl | rfl | rfl
  · show ml _ _ _ (64, [(0, .ref c), (1, .int x1)], [], M) _
    refine ml_st (S' := (65, [(0, .ref c), (1, .int x1)], [.ref c], M)) rfl rfl rfl ?_
    refine tg_vo rfl hS.1 hY0 (by decide) rfl (fun b1 g3 h2 => ?_)
    obtain ⟨s4, h2⟩ := h2
    show ml _ _ _ (68, [(0, .ref c), (1, .int x1)], [.ref b1], M) _
    refine tg_pint rfl hS.1 h2 rfl (fun u5 g6 => ?_)
    show ml _ _ _ (71, [(0, .ref c), (1, .int x1)], [.int u5], M) _
    exact ml_ret rfl (rfl) (⟨⟨_, rfl⟩, rfl⟩)
  · show ml _ _ _ (72, [(0, .ref c), (1, .int x1)], [], M) _
    refine ml_st (S' := (73, [(0, .ref c), (1, .int x1)], [.ref c], M)) rfl rfl rfl ?_
    refine tg_vo rfl hS.1 hY0 (by decide) rfl (fun b7 g9 h8 => ?_)
    obtain ⟨k10, h8⟩ := h8
    show ml _ _ _ (76, [(0, .ref c), (1, .int x1)], [.ref b7], M) _
    refine tl_mem (S' := (77, [(0, .ref c), (1, .int x1)], [.int (nI k10)], M)) rfl hS.1 h8 rfl ?_
    exact ml_ret rfl (rfl) (⟨⟨_, rfl⟩, rfl⟩)
  · show ml _ _ _ (78, [(0, .ref c), (1, .int x1)], [], M) _
    refine ml_st (S' := (79, [(0, .ref c), (1, .int x1)], [.ref c], M)) rfl rfl rfl ?_
    refine tg_vo rfl hS.1 hY0 (by decide) rfl (fun b11 g13 h12 => ?_)
    obtain ⟨k14, h12⟩ := h12
    show ml _ _ _ (82, [(0, .ref c), (1, .int x1)], [.ref b11], M) _
    refine tl_mem (S' := (83, [(0, .ref c), (1, .int x1)], [.int (nI k14)], M)) rfl hS.1 h12 rfl ?_
    exact ml_ret rfl (rfl) (⟨⟨_, rfl⟩, rfl⟩)
  · show ml _ _ _ (84, [(0, .ref c), (1, .int x1)], [], M) _
    refine ml_st (S' := (85, [(0, .ref c), (1, .int x1)], [.ref c], M)) rfl rfl rfl ?_
    refine tg_int rfl hS.1 hY0 (by decide) rfl (fun u15 g16 => ?_)
    show ml _ _ _ (88, [(0, .ref c), (1, .int x1)], [.int u15], M) _
    exact ml_ret rfl (rfl) (⟨⟨_, rfl⟩, rfl⟩)
  · show ml _ _ _ (89, [(0, .ref c), (1, .int x1)], [], M) _
    refine ml_st (S' := (90, [(0, .ref c), (1, .int x1)], [.ref c], M)) rfl rfl rfl ?_
    refine tg_ref (S' := (93, [(0, .ref c), (1, .int x1)], [.ref b], M)) rfl hS.1 hY0 (by decide) rfl rfl ?_
    refine ml_st (S' := (94, [(0, .ref c), (1, .int x1)], [.ref c, .ref b], M)) rfl rfl rfl ?_
    refine tg_int rfl hS.1 hY0 (by decide) rfl (fun u17 g18 => ?_)
    show ml _ _ _ (97, [(0, .ref c), (1, .int x1)], [.int u17, .ref b], M) _
    refine ml_call (a := [.ref b, .int u17]) (rest := []) rfl (okc_t rfl rfl rfl hS.1 hY1 (by decide)) rfl rfl (tq_u2 hS.1 hY1 (by omega)) (fun v19 M20 h21 => ?_)
    obtain ⟨⟨u22, rfl⟩, h21⟩ := h21
    rw [h21]
    show ml _ _ _ (100, [(0, .ref c), (1, .int x1)], [.int u22], M) _
    exact ml_ret rfl (rfl) (⟨⟨_, rfl⟩, rfl⟩)
  · show ml _ _ _ (101, [(0, .ref c), (1, .int x1)], [], M) _
    refine ml_st (S' := (102, [(0, .ref c), (1, .int x1)], [.ref c], M)) rfl rfl rfl ?_
    refine tg_int rfl hS.1 hY0 (by decide) rfl (fun u23 g24 => ?_)
    show ml _ _ _ (105, [(0, .ref c), (1, .int x1)], [.int u23], M) _
    exact ml_ret rfl (rfl) (⟨⟨_, rfl⟩, rfl⟩)
  · show ml _ _ _ (106, [(0, .ref c), (1, .int x1)], [], M) _
    refine ml_st (S' := (107, [(0, .ref c), (1, .int x1)], [.ref c], M)) rfl rfl rfl ?_
    refine tg_int rfl hS.1 hY0 (by decide) rfl (fun u25 g26 => ?_)
    show ml _ _ _ (110, [(0, .ref c), (1, .int x1)], [.int u25], M) _
    exact ml_ret rfl (rfl) (⟨⟨_, rfl⟩, rfl⟩)
  · show ml _ _ _ (111, [(0, .ref c), (1, .int x1)], [], M) _
    refine ml_st (S' := (112, [(0, .ref c), (1, .int x1)], [.ref c], M)) rfl rfl rfl ?_
    refine tg_ref (S' := (115, [(0, .ref c), (1, .int x1)], [.ref b], M)) rfl hS.1 hY0 (by decide) rfl rfl ?_
    refine ml_st (S' := (116, [(0, .ref c), (1, .int x1)], [.ref c, .ref b], M)) rfl rfl rfl ?_
    refine tg_int rfl hS.1 hY0 (by decide) rfl (fun u27 g28 => ?_)
    show ml _ _ _ (119, [(0, .ref c), (1, .int x1)], [.int u27, .ref b], M) _
    refine ml_blk 2 (S' := (121, [(0, .ref c), (1, .int x1)], [.int (u27 + 2), .ref b], M)) rfl ?_
    refine ml_call (a := [.ref b, .int (u27 + 2)]) (rest := []) rfl (okc_t rfl rfl rfl hS.1 hY1 (by decide)) rfl rfl (tq_u2 hS.1 hY1 (by omega)) (fun v29 M30 h31 => ?_)
    obtain ⟨⟨u32, rfl⟩, h31⟩ := h31
    rw [h31]
    show ml _ _ _ (124, [(0, .ref c), (1, .int x1)], [.int u32], M) _
    exact ml_ret rfl (rfl) (⟨⟨_, rfl⟩, rfl⟩)
  · show ml _ _ _ (125, [(0, .ref c), (1, .int x1)], [], M) _
    refine ml_st (S' := (126, [(0, .ref c), (1, .int x1)], [.ref c], M)) rfl rfl rfl ?_
    refine tg_ref (S' := (129, [(0, .ref c), (1, .int x1)], [.ref b], M)) rfl hS.1 hY0 (by decide) rfl rfl ?_
    refine ml_st (S' := (130, [(0, .ref c), (1, .int x1)], [.ref c, .ref b], M)) rfl rfl rfl ?_
    refine tg_int rfl hS.1 hY0 (by decide) rfl (fun u33 g34 => ?_)
    show ml _ _ _ (133, [(0, .ref c), (1, .int x1)], [.int u33, .ref b], M) _
    refine ml_blk 2 (S' := (135, [(0, .ref c), (1, .int x1)], [.int (u33 + 4), .ref b], M)) rfl ?_
    refine ml_call (a := [.ref b, .int (u33 + 4)]) (rest := []) rfl (okc_t rfl rfl rfl hS.1 hY1 (by decide)) rfl rfl (tq_u2 hS.1 hY1 (by omega)) (fun v35 M36 h37 => ?_)
    obtain ⟨⟨u38, rfl⟩, h37⟩ := h37
    rw [h37]
    show ml _ _ _ (138, [(0, .ref c), (1, .int x1)], [.int u38], M) _
    exact ml_ret rfl (rfl) (⟨⟨_, rfl⟩, rfl⟩)
  · show ml _ _ _ (139, [(0, .ref c), (1, .int x1)], [], M) _
    refine ml_st (S' := (140, [(0, .ref c), (1, .int x1)], [.ref c], M)) rfl rfl rfl ?_
    refine tg_vo rfl hS.1 hY0 (by decide) rfl (fun b39 g41 h40 => ?_)
    obtain ⟨s42, h40⟩ := h40
    show ml _ _ _ (143, [(0, .ref c), (1, .int x1)], [.ref b39], M) _
    refine tg_pint rfl hS.1 h40 rfl (fun u43 g44 => ?_)
    show ml _ _ _ (146, [(0, .ref c), (1, .int x1)], [.int u43], M) _
    exact ml_ret rfl (rfl) (⟨⟨_, rfl⟩, rfl⟩)
  · show ml _ _ _ (147, [(0, .ref c), (1, .int x1)], [], M) _
    refine ml_blk 2 (S' := (149, [(0, .ref c), (1, .int x1)], [.int x1, .ref c], M)) rfl ?_
    refine ml_call (a := [.ref c, .int x1]) (rest := []) rfl (okc_t rfl rfl rfl hS.1 hY0 (by decide)) rfl rfl (tw_Cl_attributeNumber hS.1 hY0 hY1 (by omega)) (fun v45 M46 h47 => ?_)
    obtain ⟨⟨u48, rfl⟩, h47⟩ := h47
    rw [h47]
    show ml _ _ _ (152, [(0, .ref c), (1, .int x1)], [.int u48], M) _
    exact ml_ret rfl (rfl) (⟨⟨_, rfl⟩, rfl⟩)
