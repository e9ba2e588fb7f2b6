/-! weak contracts: members, the file, the class (laid by wip/p2/c43.py) -/
set_option maxHeartbeats 2000000 in
theorem tw_Me_has {g : xe_G} {M : mi_H} {Y : yT} {me da n : Nat} {x1 : Int32}  (hW : WF g Y M) (hY0 : Y.1 me = some (6, [da, n])) {d : Nat} (hd : 1 ≤ d) : mt (mT g) d 108 [.ref me, .int x1] M (pZ M) := by
  obtain ⟨d, rfl⟩ : ∃ e, d = e + 1 := ⟨d - 1, by omega⟩
  have hS := st.rf hW
  refine mt_in (b := mb_108 g) rfl rfl ?_
  show ml (mT g) d (mb_108 g).2 (0, [(0, .ref me), (1, .int x1)], [], M) _
  refine ml_blk 1 (S' := (1, [(0, .ref me), (1, .int x1)], [.ref me], M)) rfl ?_
  refine tg_int rfl hS.1 hY0 (by decide) rfl (fun x1 g2 => ?_)
  show ml _ _ _ (4, [(0, .ref me), (1, .int x1)], [.int x1], M) _
  refine ml_blk 2 (S' := (6, [(0, .ref me), (1, .int x1)], [.int (x1 &&& x1)], M)) rfl ?_
  refine ml_if (S1 := (13, [(0, .ref me), (1, .int x1)], [], M)) (S2 := (9, [(0, .ref me), (1, .int x1)], [], M)) rfl rfl rfl (fun c_6 => ?_) (fun c_6 => ?_)
  · have c_6 : (x1 &&& x1) = 0 := of_decide_eq_true c_6
    refine ml_blk 1 (S' := (14, [], [.int 0], M)) rfl ?_
    exact ml_ret rfl (r_z (Or.inl rfl)) (⟨⟨_, rfl, Or.inl rfl⟩, rfl⟩)
  · have c_6 : ¬ ((x1 &&& x1) = 0) := of_decide_eq_false c_6
    refine ml_blk 2 (S' := (14, [], [.int 1], M)) rfl ?_
    exact ml_ret rfl (r_z (Or.inr rfl)) (⟨⟨_, rfl, Or.inr rfl⟩, rfl⟩)
set_option maxHeartbeats 2000000 in
theorem tw_Me_codeNumber {g : xe_G} {M : mi_H} {Y : yT} {me da n : Nat} {x1 : Int32}  (hW : WF g Y M) (hY0 : Y.1 me = some (6, [da, n])) {d : Nat} (hd : 1 ≤ d) : mt (mT g) d 107 [.ref me, .int x1] M (pI M) := by
  obtain ⟨d, rfl⟩ : ∃ e, d = e + 1 := ⟨d - 1, by omega⟩
  have hS := st.rf hW
  refine mt_in (b := mb_107 g) rfl rfl ?_
  show ml (mT g) d (mb_107 g).2 (0, [(0, .ref me), (1, .int x1)], [], M) _
  refine ml_blk 1 (S' := (1, [(0, .ref me), (1, .int x1)], [.ref me], M)) rfl ?_
  refine tg_vn rfl hS.1 hY0 (by decide) rfl (fun g3 => ?_) (fun b1 g3 h2 => ?_)
  · show ml _ _ _ (4, [(0, .ref me), (1, .int x1)], [.null], M) _
    refine ml_blk 2 (S' := (8, [(0, .ref me), (1, .int x1)], [.int 0], M)) rfl ?_
    exact ml_ret rfl (rfl) (⟨⟨_, rfl⟩, rfl⟩)
  · skip
    obtain ⟨p4, o5, h2⟩ := h2
    obtain ⟨⟨pp6, h7⟩, b8, h9⟩ := hS.1.lnk h2 (by decide)
    obtain ⟨da10, n11, h12⟩ := hS.1.lnk h9 (by decide)
    show ml _ _ _ (4, [(0, .ref me), (1, .int x1)], [.ref b1], M) _
    refine ml_blk 2 (S' := (10, [(0, .ref me), (1, .int x1)], [.int x1], M)) rfl ?_
    refine ml_sw rfl (fun t_10 ht_10 => ?_)
    have ht_10 : t_10 ∈ [36, 44, 52, 60] := mi_sw_sub ht_10 (by decide)
    simp only [List.mem_cons, List.not_mem_nil, or_false] at ht_10
    rcases ht_10 with rfl | rfl | rfl | rfl
    · show ml _ _ _ (36, [(0, .ref me), (1, .int x1)], [], M) _
      refine ml_blk 1 (S' := (37, [(0, .ref me), (1, .int x1)], [.ref me], M)) rfl ?_
      refine ml_get (S' := (40, [(0, .ref me), (1, .int x1)], [.ref b1], M)) rfl g3 rfl ?_
      refine tg_int rfl hS.1 h2 (by decide) rfl (fun x13 g14 => ?_)
      show ml _ _ _ (43, [(0, .ref me), (1, .int x1)], [.int x13], M) _
      exact ml_ret rfl (rfl) (⟨⟨_, rfl⟩, rfl⟩)
    · show ml _ _ _ (44, [(0, .ref me), (1, .int x1)], [], M) _
      refine ml_blk 1 (S' := (45, [(0, .ref me), (1, .int x1)], [.ref me], M)) rfl ?_
      refine ml_get (S' := (48, [(0, .ref me), (1, .int x1)], [.ref b1], M)) rfl g3 rfl ?_
      refine tg_int rfl hS.1 h2 (by decide) rfl (fun x15 g16 => ?_)
      show ml _ _ _ (51, [(0, .ref me), (1, .int x1)], [.int x15], M) _
      exact ml_ret rfl (rfl) (⟨⟨_, rfl⟩, rfl⟩)
    · show ml _ _ _ (52, [(0, .ref me), (1, .int x1)], [], M) _
      refine ml_blk 1 (S' := (53, [(0, .ref me), (1, .int x1)], [.ref me], M)) rfl ?_
      refine ml_get (S' := (56, [(0, .ref me), (1, .int x1)], [.ref b1], M)) rfl g3 rfl ?_
      refine tg_int rfl hS.1 h2 (by decide) rfl (fun x17 g18 => ?_)
      show ml _ _ _ (59, [(0, .ref me), (1, .int x1)], [.int x17], M) _
      exact ml_ret rfl (rfl) (⟨⟨_, rfl⟩, rfl⟩)
    · show ml _ _ _ (60, [(0, .ref me), (1, .int x1)], [], M) _
      refine ml_blk 1 (S' := (61, [(0, .ref me), (1, .int x1)], [.ref me], M)) rfl ?_
      refine ml_get (S' := (64, [(0, .ref me), (1, .int x1)], [.ref b1], M)) rfl g3 rfl ?_
      refine tg_int rfl hS.1 h2 (by decide) rfl (fun x19 g20 => ?_)
      show ml _ _ _ (67, [(0, .ref me), (1, .int x1)], [.int x19], M) _
      exact ml_ret rfl (rfl) (⟨⟨_, rfl⟩, rfl⟩)
set_option maxHeartbeats 2000000 in
theorem tw_Me_number {g : xe_G} {M : mi_H} {Y : yT} {me da n : Nat} {x1 x2 : Int32}  (hW : WF g Y M) (hY0 : Y.1 me = some (6, [da, n])) {d : Nat} (hd : 2 ≤ d) : mt (mT g) d 109 [.ref me, .int x1, .int x2] M (pI M) := by
  obtain ⟨d, rfl⟩ : ∃ e, d = e + 1 := ⟨d - 1, by omega⟩
  have hS := st.rf hW
  refine mt_in (b := mb_109 g) rfl rfl ?_
  show ml (mT g) d (mb_109 g).2 (0, [(0, .ref me), (1, .int x1), (2, .int x2)], [], M) _
  refine ml_blk 1 (S' := (1, [(0, .ref me), (1, .int x1), (2, .int x2)], [.int x2], M)) rfl ?_
  refine ml_sw rfl (fun t_1 ht_1 => ?_)
  have ht_1 : t_1 ∈ [56, 61, 66, 71, 76, 81, 86] := mi_sw_sub ht_1 (by decide)
  simp only [List.mem_cons, List.not_mem_nil, or_false] at ht_1
  rcases ht_1 with rfl | rfl | rfl | rfl | rfl | rfl | rfl
  · show ml _ _ _ (56, [(0, .ref me), (1, .int x1), (2, .int x2)], [], M) _
    refine ml_blk 1 (S' := (57, [(0, .ref me), (1, .int x1), (2, .int x2)], [.ref me], M)) rfl ?_
    refine tg_int rfl hS.1 hY0 (by decide) rfl (fun x1 g2 => ?_)
    show ml _ _ _ (60, [(0, .ref me), (1, .int x1), (2, .int x2)], [.int x1], M) _
    exact ml_ret rfl (rfl) (⟨⟨_, rfl⟩, rfl⟩)
  · show ml _ _ _ (61, [(0, .ref me), (1, .int x1), (2, .int x2)], [], M) _
    refine ml_blk 1 (S' := (62, [(0, .ref me), (1, .int x1), (2, .int x2)], [.ref me], M)) rfl ?_
    refine tg_int rfl hS.1 hY0 (by decide) rfl (fun x3 g4 => ?_)
    show ml _ _ _ (65, [(0, .ref me), (1, .int x1), (2, .int x2)], [.int x3], M) _
    exact ml_ret rfl (rfl) (⟨⟨_, rfl⟩, rfl⟩)
  · show ml _ _ _ (66, [(0, .ref me), (1, .int x1), (2, .int x2)], [], M) _
    refine ml_blk 1 (S' := (67, [(0, .ref me), (1, .int x1), (2, .int x2)], [.ref me], M)) rfl ?_
    refine tg_int rfl hS.1 hY0 (by decide) rfl (fun x5 g6 => ?_)
    show ml _ _ _ (70, [(0, .ref me), (1, .int x1), (2, .int x2)], [.int x5], M) _
    exact ml_ret rfl (rfl) (⟨⟨_, rfl⟩, rfl⟩)
  · show ml _ _ _ (71, [(0, .ref me), (1, .int x1), (2, .int x2)], [], M) _
    refine ml_blk 1 (S' := (72, [(0, .ref me), (1, .int x1), (2, .int x2)], [.ref me], M)) rfl ?_
    refine tg_int rfl hS.1 hY0 (by decide) rfl (fun x7 g8 => ?_)
    show ml _ _ _ (75, [(0, .ref me), (1, .int x1), (2, .int x2)], [.int x7], M) _
    exact ml_ret rfl (rfl) (⟨⟨_, rfl⟩, rfl⟩)
  · show ml _ _ _ (76, [(0, .ref me), (1, .int x1), (2, .int x2)], [], M) _
    refine ml_blk 1 (S' := (77, [(0, .ref me), (1, .int x1), (2, .int x2)], [.ref me], M)) rfl ?_
    refine tg_int rfl hS.1 hY0 (by decide) rfl (fun x9 g10 => ?_)
    show ml _ _ _ (80, [(0, .ref me), (1, .int x1), (2, .int x2)], [.int x9], M) _
    exact ml_ret rfl (rfl) (⟨⟨_, rfl⟩, rfl⟩)
  · show ml _ _ _ (81, [(0, .ref me), (1, .int x1), (2, .int x2)], [], M) _
    refine ml_blk 1 (S' := (82, [(0, .ref me), (1, .int x1), (2, .int x2)], [.ref me], M)) rfl ?_
    refine tg_int rfl hS.1 hY0 (by decide) rfl (fun x11 g12 => ?_)
    show ml _ _ _ (85, [(0, .ref me), (1, .int x1), (2, .int x2)], [.int x11], M) _
    exact ml_ret rfl (rfl) (⟨⟨_, rfl⟩, rfl⟩)
  · show ml _ _ _ (86, [(0, .ref me), (1, .int x1), (2, .int x2)], [], M) _
    refine ml_blk 1 (S' := (87, [(0, .ref me), (1, .int x1), (2, .int x2)], [.int x1], M)) rfl ?_
    refine ml_if (S1 := (98, [(0, .ref me), (1, .int x1), (2, .int x2)], [], M)) (S2 := (90, [(0, .ref me), (1, .int x1), (2, .int x2)], [], M)) rfl rfl rfl (fun c_87 => ?_) (fun c_87 => ?_)
    · have c_87 : x1 = 0 := of_decide_eq_true c_87
      refine ml_blk 2 (S' := (100, [(0, .ref me), (1, .int x1), (2, .int x2)], [.int 4, .int x2], M)) rfl ?_
      refine ml_if2 (S1 := (110, [(0, .ref me), (1, .int x1), (2, .int x2)], [], M)) (S2 := (103, [(0, .ref me), (1, .int x1), (2, .int x2)], [], M)) rfl rfl rfl (fun c_100 => ?_) (fun c_100 => ?_)
      · have c_100 : ¬ x2 = 4 := of_decide_eq_true c_100
        refine ml_blk 1 (S' := (111, [], [.int 0], M)) rfl ?_
        exact ml_ret rfl (rfl) (⟨⟨_, rfl⟩, rfl⟩)
      · have c_100 : ¬ (¬ x2 = 4) := of_decide_eq_false c_100
        refine ml_blk 1 (S' := (104, [(0, .ref me), (1, .int x1), (2, .int x2)], [.ref me], M)) rfl ?_
        refine tg_int rfl hS.1 hY0 (by decide) rfl (fun x13 g14 => ?_)
        show ml _ _ _ (107, [(0, .ref me), (1, .int x1), (2, .int x2)], [.int x13], M) _
        refine ml_blk 1 (S' := (111, [], [.int x13], M)) rfl ?_
        exact ml_ret rfl (rfl) (⟨⟨_, rfl⟩, rfl⟩)
    · have c_87 : ¬ (x1 = 0) := of_decide_eq_false c_87
      refine ml_blk 2 (S' := (92, [(0, .ref me), (1, .int x1), (2, .int x2)], [.int x2, .ref me], M)) rfl ?_
      refine ml_call (a := [.ref me, .int x2]) (rest := []) rfl (okc_t rfl rfl rfl hS.1 hY0 (by decide)) rfl rfl (tw_Me_codeNumber hS.1 hY0 (by omega)) (fun v15 M16 h17 => ?_)
      obtain ⟨⟨x18, rfl⟩, h17⟩ := h17
      rw [h17]
      show ml _ _ _ (95, [(0, .ref me), (1, .int x1), (2, .int x2)], [.int x18], M) _
      refine ml_blk 1 (S' := (111, [], [.int x18], M)) rfl ?_
      exact ml_ret rfl (rfl) (⟨⟨_, rfl⟩, rfl⟩)
set_option maxHeartbeats 2000000 in
theorem tw_Cl_has {g : xe_G} {M : mi_H} {Y : yT} {c b da n : Nat} {x1 : Int32}  (hW : WF g Y M) (hY0 : Y.1 c = some (3, [b, da, n])) (hY1 : Y.1 b = some (1, [da, n])) {d : Nat} (hd : 2 ≤ d) : mt (mT g) d 71 [.ref c, .int x1] M (pZ M) := by
  obtain ⟨d, rfl⟩ : ∃ e, d = e + 1 := ⟨d - 1, by omega⟩
  have hS := st.rf hW
  refine mt_in (b := mb_71 g) rfl rfl ?_
  show ml (mT g) d (mb_71 g).2 (0, [(0, .ref c), (1, .int x1)], [], M) _
  refine ml_blk 1 (S' := (1, [(0, .ref c), (1, .int x1)], [.ref c], M)) rfl ?_
  refine tg_ref (S' := (4, [(0, .ref c), (1, .int x1)], [.ref b], M)) rfl hS.1 hY0 (by decide) rfl rfl ?_
  refine ml_blk 1 (S' := (5, [(0, .ref c), (1, .int x1)], [.ref c, .ref b], M)) rfl ?_
  refine tg_int rfl hS.1 hY0 (by decide) rfl (fun x1 g2 => ?_)
  show ml _ _ _ (8, [(0, .ref c), (1, .int x1)], [.int x1, .ref b], M) _
  refine ml_call (a := [.ref b, .int x1]) (rest := []) rfl (okc_t rfl rfl rfl hS.1 hY1 (by decide)) rfl rfl (tq_u2 hS.1 hY1 (by omega)) (fun v3 M4 h5 => ?_)
  obtain ⟨⟨x6, rfl⟩, h5⟩ := h5
  rw [h5]
  show ml _ _ _ (11, [(0, .ref c), (1, .int x1)], [.int x6], M) _
  refine ml_blk 2 (S' := (13, [(0, .ref c), (1, .int x1)], [.int (x6 &&& x1)], M)) rfl ?_
  refine ml_if (S1 := (20, [(0, .ref c), (1, .int x1)], [], M)) (S2 := (16, [(0, .ref c), (1, .int x1)], [], M)) rfl rfl rfl (fun c_13 => ?_) (fun c_13 => ?_)
  · have c_13 : (x6 &&& x1) = 0 := of_decide_eq_true c_13
    refine ml_blk 1 (S' := (21, [], [.int 0], M)) rfl ?_
    exact ml_ret rfl (r_z (Or.inl rfl)) (⟨⟨_, rfl, Or.inl rfl⟩, rfl⟩)
  · have c_13 : ¬ ((x6 &&& x1) = 0) := of_decide_eq_false c_13
    refine ml_blk 2 (S' := (21, [], [.int 1], M)) rfl ?_
    exact ml_ret rfl (r_z (Or.inr rfl)) (⟨⟨_, rfl, Or.inr rfl⟩, rfl⟩)
set_option maxHeartbeats 2000000 in
theorem tw_Cl_attributeNumber {g : xe_G} {M : mi_H} {Y : yT} {c b da n : Nat} {x1 : Int32}  (hW : WF g Y M) (hY0 : Y.1 c = some (3, [b, da, n])) (hY1 : Y.1 b = some (1, [da, n])) {d : Nat} (hd : 1 ≤ d) : mt (mT g) d 69 [.ref c, .int x1] M (pI M) := by
  obtain ⟨d, rfl⟩ : ∃ e, d = e + 1 := ⟨d - 1, by omega⟩
  have hS := st.rf hW
  refine mt_in (b := mb_69 g) rfl rfl ?_
  show ml (mT g) d (mb_69 g).2 (0, [(0, .ref c), (1, .int x1)], [], M) _
  refine ml_blk 1 (S' := (1, [(0, .ref c), (1, .int x1)], [.int x1], M)) rfl ?_
  refine ml_sw rfl (fun t_1 ht_1 => ?_)
  have ht_1 : t_1 ∈ [60, 65, 70, 75, 80, 85] := mi_sw_sub ht_1 (by decide)
  simp only [List.mem_cons, List.not_mem_nil, or_false] at ht_1
  rcases ht_1 with rfl | rfl | rfl | rfl | rfl | rfl
  · show ml _ _ _ (60, [(0, .ref c), (1, .int x1)], [], M) _
    refine ml_blk 1 (S' := (61, [(0, .ref c), (1, .int x1)], [.ref c], M)) rfl ?_
    refine tg_int rfl hS.1 hY0 (by decide) rfl (fun x1 g2 => ?_)
    show ml _ _ _ (64, [(0, .ref c), (1, .int x1)], [.int x1], M) _
    exact ml_ret rfl (rfl) (⟨⟨_, rfl⟩, rfl⟩)
  · show ml _ _ _ (65, [(0, .ref c), (1, .int x1)], [], M) _
    refine ml_blk 1 (S' := (66, [(0, .ref c), (1, .int x1)], [.ref c], M)) rfl ?_
    refine tg_int rfl hS.1 hY0 (by decide) rfl (fun x3 g4 => ?_)
    show ml _ _ _ (69, [(0, .ref c), (1, .int x1)], [.int x3], M) _
    exact ml_ret rfl (rfl) (⟨⟨_, rfl⟩, rfl⟩)
  · show ml _ _ _ (70, [(0, .ref c), (1, .int x1)], [], M) _
    refine ml_blk 1 (S' := (71, [(0, .ref c), (1, .int x1)], [.ref c], M)) rfl ?_
    refine tg_int rfl hS.1 hY0 (by decide) rfl (fun x5 g6 => ?_)
    show ml _ _ _ (74, [(0, .ref c), (1, .int x1)], [.int x5], M) _
    exact ml_ret rfl (rfl) (⟨⟨_, rfl⟩, rfl⟩)
  · show ml _ _ _ (75, [(0, .ref c), (1, .int x1)], [], M) _
    refine ml_blk 1 (S' := (76, [(0, .ref c), (1, .int x1)], [.ref c], M)) rfl ?_
    refine tg_int rfl hS.1 hY0 (by decide) rfl (fun x7 g8 => ?_)
    show ml _ _ _ (79, [(0, .ref c), (1, .int x1)], [.int x7], M) _
    exact ml_ret rfl (rfl) (⟨⟨_, rfl⟩, rfl⟩)
  · show ml _ _ _ (80, [(0, .ref c), (1, .int x1)], [], M) _
    refine ml_blk 1 (S' := (81, [(0, .ref c), (1, .int x1)], [.ref c], M)) rfl ?_
    refine tg_int rfl hS.1 hY0 (by decide) rfl (fun x9 g10 => ?_)
    show ml _ _ _ (84, [(0, .ref c), (1, .int x1)], [.int x9], M) _
    exact ml_ret rfl (rfl) (⟨⟨_, rfl⟩, rfl⟩)
  · show ml _ _ _ (85, [(0, .ref c), (1, .int x1)], [], M) _
    refine ml_blk 1 (S' := (86, [(0, .ref c), (1, .int x1)], [.ref c], M)) rfl ?_
    refine tg_int rfl hS.1 hY0 (by decide) rfl (fun x11 g12 => ?_)
    show ml _ _ _ (89, [(0, .ref c), (1, .int x1)], [.int x11], M) _
    exact ml_ret rfl (rfl) (⟨⟨_, rfl⟩, rfl⟩)
set_option maxHeartbeats 2000000 in
theorem tw_Cl_number {g : xe_G} {M : mi_H} {Y : yT} {c b da n : Nat} {x1 : Int32}  (hW : WF g Y M) (hY0 : Y.1 c = some (3, [b, da, n])) (hY1 : Y.1 b = some (1, [da, n])) {d : Nat} (hd : 2 ≤ d) : mt (mT g) d 73 [.ref c, .int x1] M (pI M) := by
  obtain ⟨d, rfl⟩ : ∃ e, d = e + 1 := ⟨d - 1, by omega⟩
  have hS := st.rf hW
  refine mt_in (b := mb_73 g) rfl rfl ?_
  show ml (mT g) d (mb_73 g).2 (0, [(0, .ref c), (1, .int x1)], [], M) _
  refine ml_blk 1 (S' := (1, [(0, .ref c), (1, .int x1)], [.int x1], M)) rfl ?_
  refine ml_sw rfl (fun t_1 ht_1 => ?_)
  have ht_1 : t_1 ∈ [64, 72, 78, 84, 89, 101, 106, 111, 125, 139, 147] := mi_sw_sub ht_1 (by decide)
  simp only [List.mem_cons, List.not_mem_nil, or_false] at ht_1
  rcases ht_1 with rfl | rfl | rfl | rfl | rfl | rfl | rfl | rfl | rfl | rfl | rfl
  · show ml _ _ _ (64, [(0, .ref c), (1, .int x1)], [], M) _
    refine ml_blk 1 (S' := (65, [(0, .ref c), (1, .int x1)], [.ref c], M)) rfl ?_
    refine tg_vo rfl hS.1 hY0 (by decide) rfl (fun b1 g3 h2 => ?_)
    obtain ⟨s4, h2⟩ := h2
    show ml _ _ _ (68, [(0, .ref c), (1, .int x1)], [.ref b1], M) _
    refine tg_int rfl hS.1 h2 (by decide) rfl (fun x5 g6 => ?_)
    show ml _ _ _ (71, [(0, .ref c), (1, .int x1)], [.int x5], M) _
    exact ml_ret rfl (rfl) (⟨⟨_, rfl⟩, rfl⟩)
  · show ml _ _ _ (72, [(0, .ref c), (1, .int x1)], [], M) _
    refine ml_blk 1 (S' := (73, [(0, .ref c), (1, .int x1)], [.ref c], M)) rfl ?_
    refine tg_vo rfl hS.1 hY0 (by decide) rfl (fun b7 g9 h8 => ?_)
    obtain ⟨k10, h8⟩ := h8
    show ml _ _ _ (76, [(0, .ref c), (1, .int x1)], [.ref b7], M) _
    refine tl_mem (S' := (77, [(0, .ref c), (1, .int x1)], [.int (nI k10)], M)) rfl hS.1 h8 rfl ?_
    exact ml_ret rfl (rfl) (⟨⟨_, rfl⟩, rfl⟩)
  · show ml _ _ _ (78, [(0, .ref c), (1, .int x1)], [], M) _
    refine ml_blk 1 (S' := (79, [(0, .ref c), (1, .int x1)], [.ref c], M)) rfl ?_
    refine tg_vo rfl hS.1 hY0 (by decide) rfl (fun b11 g13 h12 => ?_)
    obtain ⟨k14, h12⟩ := h12
    show ml _ _ _ (82, [(0, .ref c), (1, .int x1)], [.ref b11], M) _
    refine tl_mem (S' := (83, [(0, .ref c), (1, .int x1)], [.int (nI k14)], M)) rfl hS.1 h12 rfl ?_
    exact ml_ret rfl (rfl) (⟨⟨_, rfl⟩, rfl⟩)
  · show ml _ _ _ (84, [(0, .ref c), (1, .int x1)], [], M) _
    refine ml_blk 1 (S' := (85, [(0, .ref c), (1, .int x1)], [.ref c], M)) rfl ?_
    refine tg_int rfl hS.1 hY0 (by decide) rfl (fun x15 g16 => ?_)
    show ml _ _ _ (88, [(0, .ref c), (1, .int x1)], [.int x15], M) _
    exact ml_ret rfl (rfl) (⟨⟨_, rfl⟩, rfl⟩)
  · show ml _ _ _ (89, [(0, .ref c), (1, .int x1)], [], M) _
    refine ml_blk 1 (S' := (90, [(0, .ref c), (1, .int x1)], [.ref c], M)) rfl ?_
    refine tg_ref (S' := (93, [(0, .ref c), (1, .int x1)], [.ref b], M)) rfl hS.1 hY0 (by decide) rfl rfl ?_
    refine ml_blk 1 (S' := (94, [(0, .ref c), (1, .int x1)], [.ref c, .ref b], M)) rfl ?_
    refine tg_int rfl hS.1 hY0 (by decide) rfl (fun x17 g18 => ?_)
    show ml _ _ _ (97, [(0, .ref c), (1, .int x1)], [.int x17, .ref b], M) _
    refine ml_call (a := [.ref b, .int x17]) (rest := []) rfl (okc_t rfl rfl rfl hS.1 hY1 (by decide)) rfl rfl (tq_u2 hS.1 hY1 (by omega)) (fun v19 M20 h21 => ?_)
    obtain ⟨⟨x22, rfl⟩, h21⟩ := h21
    rw [h21]
    show ml _ _ _ (100, [(0, .ref c), (1, .int x1)], [.int x22], M) _
    exact ml_ret rfl (rfl) (⟨⟨_, rfl⟩, rfl⟩)
  · show ml _ _ _ (101, [(0, .ref c), (1, .int x1)], [], M) _
    refine ml_blk 1 (S' := (102, [(0, .ref c), (1, .int x1)], [.ref c], M)) rfl ?_
    refine tg_int rfl hS.1 hY0 (by decide) rfl (fun x23 g24 => ?_)
    show ml _ _ _ (105, [(0, .ref c), (1, .int x1)], [.int x23], M) _
    exact ml_ret rfl (rfl) (⟨⟨_, rfl⟩, rfl⟩)
  · show ml _ _ _ (106, [(0, .ref c), (1, .int x1)], [], M) _
    refine ml_blk 1 (S' := (107, [(0, .ref c), (1, .int x1)], [.ref c], M)) rfl ?_
    refine tg_int rfl hS.1 hY0 (by decide) rfl (fun x25 g26 => ?_)
    show ml _ _ _ (110, [(0, .ref c), (1, .int x1)], [.int x25], M) _
    exact ml_ret rfl (rfl) (⟨⟨_, rfl⟩, rfl⟩)
  · show ml _ _ _ (111, [(0, .ref c), (1, .int x1)], [], M) _
    refine ml_blk 1 (S' := (112, [(0, .ref c), (1, .int x1)], [.ref c], M)) rfl ?_
    refine tg_ref (S' := (115, [(0, .ref c), (1, .int x1)], [.ref b], M)) rfl hS.1 hY0 (by decide) rfl rfl ?_
    refine ml_blk 1 (S' := (116, [(0, .ref c), (1, .int x1)], [.ref c, .ref b], M)) rfl ?_
    refine tg_int rfl hS.1 hY0 (by decide) rfl (fun x27 g28 => ?_)
    show ml _ _ _ (119, [(0, .ref c), (1, .int x1)], [.int x27, .ref b], M) _
    refine ml_blk 2 (S' := (121, [(0, .ref c), (1, .int x1)], [.int (x27 + 2), .ref b], M)) rfl ?_
    refine ml_call (a := [.ref b, .int (x27 + 2)]) (rest := []) rfl (okc_t rfl rfl rfl hS.1 hY1 (by decide)) rfl rfl (tq_u2 hS.1 hY1 (by omega)) (fun v29 M30 h31 => ?_)
    obtain ⟨⟨x32, rfl⟩, h31⟩ := h31
    rw [h31]
    show ml _ _ _ (124, [(0, .ref c), (1, .int x1)], [.int x32], M) _
    exact ml_ret rfl (rfl) (⟨⟨_, rfl⟩, rfl⟩)
  · show ml _ _ _ (125, [(0, .ref c), (1, .int x1)], [], M) _
    refine ml_blk 1 (S' := (126, [(0, .ref c), (1, .int x1)], [.ref c], M)) rfl ?_
    refine tg_ref (S' := (129, [(0, .ref c), (1, .int x1)], [.ref b], M)) rfl hS.1 hY0 (by decide) rfl rfl ?_
    refine ml_blk 1 (S' := (130, [(0, .ref c), (1, .int x1)], [.ref c, .ref b], M)) rfl ?_
    refine tg_int rfl hS.1 hY0 (by decide) rfl (fun x33 g34 => ?_)
    show ml _ _ _ (133, [(0, .ref c), (1, .int x1)], [.int x33, .ref b], M) _
    refine ml_blk 2 (S' := (135, [(0, .ref c), (1, .int x1)], [.int (x33 + 4), .ref b], M)) rfl ?_
    refine ml_call (a := [.ref b, .int (x33 + 4)]) (rest := []) rfl (okc_t rfl rfl rfl hS.1 hY1 (by decide)) rfl rfl (tq_u2 hS.1 hY1 (by omega)) (fun v35 M36 h37 => ?_)
    obtain ⟨⟨x38, rfl⟩, h37⟩ := h37
    rw [h37]
    show ml _ _ _ (138, [(0, .ref c), (1, .int x1)], [.int x38], M) _
    exact ml_ret rfl (rfl) (⟨⟨_, rfl⟩, rfl⟩)
  · show ml _ _ _ (139, [(0, .ref c), (1, .int x1)], [], M) _
    refine ml_blk 1 (S' := (140, [(0, .ref c), (1, .int x1)], [.ref c], M)) rfl ?_
    refine tg_vo rfl hS.1 hY0 (by decide) rfl (fun b39 g41 h40 => ?_)
    obtain ⟨s42, h40⟩ := h40
    show ml _ _ _ (143, [(0, .ref c), (1, .int x1)], [.ref b39], M) _
    refine tg_int rfl hS.1 h40 (by decide) rfl (fun x43 g44 => ?_)
    show ml _ _ _ (146, [(0, .ref c), (1, .int x1)], [.int x43], M) _
    exact ml_ret rfl (rfl) (⟨⟨_, rfl⟩, rfl⟩)
  · show ml _ _ _ (147, [(0, .ref c), (1, .int x1)], [], M) _
    refine ml_blk 2 (S' := (149, [(0, .ref c), (1, .int x1)], [.int x1, .ref c], M)) rfl ?_
    refine ml_call (a := [.ref c, .int x1]) (rest := []) rfl (okc_t rfl rfl rfl hS.1 hY0 (by decide)) rfl rfl (tw_Cl_attributeNumber hS.1 hY0 hY1 (by omega)) (fun v45 M46 h47 => ?_)
    obtain ⟨⟨x48, rfl⟩, h47⟩ := h47
    rw [h47]
    show ml _ _ _ (152, [(0, .ref c), (1, .int x1)], [.int x48], M) _
    exact ml_ret rfl (rfl) (⟨⟨_, rfl⟩, rfl⟩)
set_option maxHeartbeats 2000000 in
theorem tw_Cl_bootstrapPart {g : xe_G} {M : mi_H} {Y : yT} {c b da n : Nat} {x1 x2 : Int32}  (hW : WF g Y M) (hY0 : Y.1 c = some (3, [b, da, n])) (hY1 : Y.1 b = some (1, [da, n])) {d : Nat} (hd : 2 ≤ d) : mt (mT g) d 70 [.ref c, .int x1, .int x2] M (pI M) := by
  obtain ⟨d, rfl⟩ : ∃ e, d = e + 1 := ⟨d - 1, by omega⟩
  have hS := st.rf hW
  refine mt_in (b := mb_70 g) rfl rfl ?_
  show ml (mT g) d (mb_70 g).2 (0, [(0, .ref c), (1, .int x1), (2, .int x2)], [], M) _
  refine ml_blk 1 (S' := (1, [(0, .ref c), (1, .int x1), (2, .int x2)], [.int x1], M)) rfl ?_
  refine ml_if (S1 := (12, [], [], M)) (S2 := (4, [(0, .ref c), (1, .int x1), (2, .int x2)], [], M)) rfl rfl rfl (fun c_1 => ?_) (fun c_1 => ?_)
  · have c_1 : x1 < 0 := of_decide_eq_true c_1
    refine ml_blk 1 (S' := (13, [], [.int (-1)], M)) rfl ?_
    exact ml_ret rfl (rfl) (⟨⟨_, rfl⟩, rfl⟩)
  · have c_1 : ¬ (x1 < 0) := of_decide_eq_false c_1
    refine ml_blk 2 (S' := (6, [(0, .ref c), (1, .int x1), (2, .int x2)], [.ref c, .int x1], M)) rfl ?_
    refine tg_int rfl hS.1 hY0 (by decide) rfl (fun x1 g2 => ?_)
    show ml _ _ _ (9, [(0, .ref c), (1, .int x1), (2, .int x2)], [.int x1, .int x1], M) _
    refine ml_if2 (S1 := (14, [(0, .ref c), (1, .int x1), (2, .int x2)], [], M)) (S2 := (12, [], [], M)) rfl rfl rfl (fun c_9 => ?_) (fun c_9 => ?_)
    · have c_9 : x1 < x1 := of_decide_eq_true c_9
      refine ml_blk 1 (S' := (15, [(0, .ref c), (1, .int x1), (2, .int x2)], [.ref c], M)) rfl ?_
      refine tg_int rfl hS.1 hY0 (by decide) rfl (fun x3 g4 => ?_)
      show ml _ _ _ (18, [(0, .ref c), (1, .int x1), (2, .int x2)], [.int x3], M) _
      refine ml_blk 3 (S' := (22, [(0, .ref c), (1, .int x1), (2, .int x2), (3, .int x3), (4, .int 0)], [], M)) rfl ?_
      have L_22 : ∀ (n_22 : Nat) (i22_3 : Int32) (i22_4 : Int32), (2147483648 - i22_4.toInt).toNat ≤ n_22 → ml (mT g) d (mb_70 g).2 (22, [(0, .ref c), (1, .int x1), (2, .int x2), (3, .int i22_3), (4, .int i22_4)], [], M) (pI M) := by
        intro n_22
        induction n_22 with
        | zero => intro i22_3 i22_4 hn; exact (loop_zero hn).elim
        | succ n_22 ih_22 =>
          intro i22_3 i22_4 hn_22
          refine ml_blk 2 (S' := (25, [(0, .ref c), (1, .int x1), (2, .int x2), (3, .int i22_3), (4, .int i22_4)], [.int x1, .int i22_4], M)) rfl ?_
          refine ml_if2 (S1 := (51, [(0, .ref c), (1, .int x1), (2, .int x2), (3, .int i22_3), (4, .int i22_4)], [], M)) (S2 := (28, [(0, .ref c), (1, .int x1), (2, .int x2), (3, .int i22_3), (4, .int i22_4)], [], M)) rfl rfl rfl (fun c_25 => ?_) (fun c_25 => ?_)
          · have c_25 : x1 ≤ i22_4 := of_decide_eq_true c_25
            refine ml_blk 1 (S' := (52, [(0, .ref c), (1, .int x1), (2, .int x2), (3, .int i22_3), (4, .int i22_4)], [.int x2], M)) rfl ?_
            refine ml_if (S1 := (69, [], [], M)) (S2 := (55, [(0, .ref c), (1, .int x1), (2, .int x2), (3, .int i22_3), (4, .int i22_4)], [], M)) rfl rfl rfl (fun c_52 => ?_) (fun c_52 => ?_)
            · have c_52 : x2 < 0 := of_decide_eq_true c_52
              refine ml_blk 1 (S' := (70, [], [.int (-1)], M)) rfl ?_
              exact ml_ret rfl (rfl) (⟨⟨_, rfl⟩, rfl⟩)
            · have c_52 : ¬ (x2 < 0) := of_decide_eq_false c_52
              refine ml_blk 2 (S' := (57, [(0, .ref c), (1, .int x1), (2, .int x2), (3, .int i22_3), (4, .int i22_4)], [.ref c, .int x2], M)) rfl ?_
              refine tg_ref (S' := (60, [(0, .ref c), (1, .int x1), (2, .int x2), (3, .int i22_3), (4, .int i22_4)], [.ref b, .int x2], M)) rfl hS.1 hY0 (by decide) rfl rfl ?_
              refine ml_blk 3 (S' := (63, [(0, .ref c), (1, .int x1), (2, .int x2), (3, .int i22_3), (4, .int i22_4)], [.int (i22_3 + 2), .ref b, .int x2], M)) rfl ?_
              refine ml_call (a := [.ref b, .int (i22_3 + 2)]) (rest := [.int x2]) rfl (okc_t rfl rfl rfl hS.1 hY1 (by decide)) rfl rfl (tq_u2 hS.1 hY1 (by omega)) (fun v5 M6 h7 => ?_)
              obtain ⟨⟨x8, rfl⟩, h7⟩ := h7
              rw [h7]
              show ml _ _ _ (66, [(0, .ref c), (1, .int x1), (2, .int x2), (3, .int i22_3), (4, .int i22_4)], [.int x8, .int x2], M) _
              refine ml_if2 (S1 := (71, [(0, .ref c), (1, .int x1), (2, .int x2), (3, .int i22_3), (4, .int i22_4)], [], M)) (S2 := (69, [], [], M)) rfl rfl rfl (fun c_66 => ?_) (fun c_66 => ?_)
              · have c_66 : x2 ≤ x8 := of_decide_eq_true c_66
                refine ml_blk 1 (S' := (72, [(0, .ref c), (1, .int x1), (2, .int x2), (3, .int i22_3), (4, .int i22_4)], [.ref c], M)) rfl ?_
                refine tg_ref (S' := (75, [(0, .ref c), (1, .int x1), (2, .int x2), (3, .int i22_3), (4, .int i22_4)], [.ref b], M)) rfl hS.1 hY0 (by decide) rfl rfl ?_
                refine ml_blk 1 (S' := (76, [(0, .ref c), (1, .int x1), (2, .int x2), (3, .int i22_3), (4, .int i22_4)], [.int x2, .ref b], M)) rfl ?_
                refine ml_if (S1 := (83, [(0, .ref c), (1, .int x1), (2, .int x2), (3, .int i22_3), (4, .int i22_4)], [.ref b], M)) (S2 := (79, [(0, .ref c), (1, .int x1), (2, .int x2), (3, .int i22_3), (4, .int i22_4)], [.ref b], M)) rfl rfl rfl (fun c_76 => ?_) (fun c_76 => ?_)
                · have c_76 : ¬ x2 = 0 := of_decide_eq_true c_76
                  refine ml_blk 7 (S' := (90, [], [.int ((i22_3 + 2) + (2 * x2)), .ref b], M)) rfl ?_
                  refine ml_call (a := [.ref b, .int ((i22_3 + 2) + (2 * x2))]) (rest := []) rfl (okc_t rfl rfl rfl hS.1 hY1 (by decide)) rfl rfl (tq_u2 hS.1 hY1 (by omega)) (fun v9 M10 h11 => ?_)
                  obtain ⟨⟨x12, rfl⟩, h11⟩ := h11
                  rw [h11]
                  show ml _ _ _ (93, [], [.int x12], M) _
                  exact ml_ret rfl (rfl) (⟨⟨_, rfl⟩, rfl⟩)
                · have c_76 : ¬ (¬ x2 = 0) := of_decide_eq_false c_76
                  refine ml_blk 2 (S' := (90, [], [.int i22_3, .ref b], M)) rfl ?_
                  refine ml_call (a := [.ref b, .int i22_3]) (rest := []) rfl (okc_t rfl rfl rfl hS.1 hY1 (by decide)) rfl rfl (tq_u2 hS.1 hY1 (by omega)) (fun v13 M14 h15 => ?_)
                  obtain ⟨⟨x16, rfl⟩, h15⟩ := h15
                  rw [h15]
                  show ml _ _ _ (93, [], [.int x16], M) _
                  exact ml_ret rfl (rfl) (⟨⟨_, rfl⟩, rfl⟩)
              · have c_66 : ¬ (x2 ≤ x8) := of_decide_eq_false c_66
                refine ml_blk 1 (S' := (70, [], [.int (-1)], M)) rfl ?_
                exact ml_ret rfl (rfl) (⟨⟨_, rfl⟩, rfl⟩)
          · have c_25 : ¬ (x1 ≤ i22_4) := of_decide_eq_false c_25
            refine ml_blk 4 (S' := (32, [(0, .ref c), (1, .int x1), (2, .int x2), (3, .int i22_3), (4, .int i22_4)], [.ref c, .int 2, .int 4, .int i22_3], M)) rfl ?_
            refine tg_ref (S' := (35, [(0, .ref c), (1, .int x1), (2, .int x2), (3, .int i22_3), (4, .int i22_4)], [.ref b, .int 2, .int 4, .int i22_3], M)) rfl hS.1 hY0 (by decide) rfl rfl ?_
            refine ml_blk 3 (S' := (38, [(0, .ref c), (1, .int x1), (2, .int x2), (3, .int i22_3), (4, .int i22_4)], [.int (i22_3 + 2), .ref b, .int 2, .int 4, .int i22_3], M)) rfl ?_
            refine ml_call (a := [.ref b, .int (i22_3 + 2)]) (rest := [.int 2, .int 4, .int i22_3]) rfl (okc_t rfl rfl rfl hS.1 hY1 (by decide)) rfl rfl (tq_u2 hS.1 hY1 (by omega)) (fun v17 M18 h19 => ?_)
            obtain ⟨⟨x20, rfl⟩, h19⟩ := h19
            rw [h19]
            show ml _ _ _ (41, [(0, .ref c), (1, .int x1), (2, .int x2), (3, .int i22_3), (4, .int i22_4)], [.int x20, .int 2, .int 4, .int i22_3], M) _
            refine ml_blk 6 (S' := (22, [(0, .ref c), (1, .int x1), (2, .int x2), (3, .int (i22_3 + (4 + (2 * x20)))), (4, .int (i22_4 + 1))], [], M)) rfl ?_
            exact ih_22 (i22_3 + (4 + (2 * x20))) (i22_4 + 1) (loop_inc (Int32.not_le.mp c_25) hn_22) 
      exact L_22 _ x3 0 (Nat.le_refl _) 
    · have c_9 : ¬ (x1 < x1) := of_decide_eq_false c_9
      refine ml_blk 1 (S' := (13, [], [.int (-1)], M)) rfl ?_
      exact ml_ret rfl (rfl) (⟨⟨_, rfl⟩, rfl⟩)
set_option maxHeartbeats 2000000 in
theorem tw_Cl_hasAll {g : xe_G} {M : mi_H} {Y : yT} {x1 x2 : Int32}  (hW : WF g Y M) {d : Nat} (hd : 1 ≤ d) : mt (mT g) d 58 [.int x1, .int x2] M (pZ M) := by
  obtain ⟨d, rfl⟩ : ∃ e, d = e + 1 := ⟨d - 1, by omega⟩
  have hS := st.rf hW
  refine mt_in (b := mb_58 g) rfl rfl ?_
  show ml (mT g) d (mb_58 g).2 (0, [(0, .int x1), (1, .int x2)], [], M) _
  refine ml_blk 4 (S' := (4, [(0, .int x1), (1, .int x2)], [.int x2, .int (x1 &&& x2)], M)) rfl ?_
  refine ml_if2 (S1 := (11, [(0, .int x1), (1, .int x2)], [], M)) (S2 := (7, [(0, .int x1), (1, .int x2)], [], M)) rfl rfl rfl (fun c_4 => ?_) (fun c_4 => ?_)
  · have c_4 : ¬ (x1 &&& x2) = x2 := of_decide_eq_true c_4
    refine ml_blk 1 (S' := (12, [], [.int 0], M)) rfl ?_
    exact ml_ret rfl (r_z (Or.inl rfl)) (⟨⟨_, rfl, Or.inl rfl⟩, rfl⟩)
  · have c_4 : ¬ (¬ (x1 &&& x2) = x2) := of_decide_eq_false c_4
    refine ml_blk 2 (S' := (12, [], [.int 1], M)) rfl ?_
    exact ml_ret rfl (r_z (Or.inr rfl)) (⟨⟨_, rfl, Or.inr rfl⟩, rfl⟩)
set_option maxHeartbeats 2000000 in
theorem tw_Cl_hasOneAccessAtMost {g : xe_G} {M : mi_H} {Y : yT} {x1 : Int32}  (hW : WF g Y M) {d : Nat} (hd : 2 ≤ d) : mt (mT g) d 59 [.int x1] M (pZ M) := by
  obtain ⟨d, rfl⟩ : ∃ e, d = e + 1 := ⟨d - 1, by omega⟩
  have hS := st.rf hW
  refine mt_in (b := mb_59 g) rfl rfl ?_
  show ml (mT g) d (mb_59 g).2 (0, [(0, .int x1)], [], M) _
  refine ml_blk 3 (S' := (4, [(0, .int x1)], [.int (x1 &&& 7)], M)) rfl ?_
  refine ml_call (a := [.int (x1 &&& 7)]) (rest := []) rfl (rfl) rfl rfl (tw_J_bitCount hS.1  (by omega)) (fun v1 M2 h3 => ?_)
  obtain ⟨⟨x4, rfl⟩, h3⟩ := h3
  rw [h3]
  show ml _ _ _ (7, [(0, .int x1)], [.int x4], M) _
  refine ml_blk 1 (S' := (8, [(0, .int x1)], [.int 1, .int x4], M)) rfl ?_
  refine ml_if2 (S1 := (15, [(0, .int x1)], [], M)) (S2 := (11, [(0, .int x1)], [], M)) rfl rfl rfl (fun c_8 => ?_) (fun c_8 => ?_)
  · have c_8 : 1 < x4 := of_decide_eq_true c_8
    refine ml_blk 1 (S' := (16, [], [.int 0], M)) rfl ?_
    exact ml_ret rfl (r_z (Or.inl rfl)) (⟨⟨_, rfl, Or.inl rfl⟩, rfl⟩)
  · have c_8 : ¬ (1 < x4) := of_decide_eq_false c_8
    refine ml_blk 2 (S' := (16, [], [.int 1], M)) rfl ?_
    exact ml_ret rfl (r_z (Or.inr rfl)) (⟨⟨_, rfl, Or.inr rfl⟩, rfl⟩)
set_option maxHeartbeats 2000000 in
theorem tw_Cl_classFlagsHold {g : xe_G} {M : mi_H} {Y : yT} {x1 : Int32}  (hW : WF g Y M) {d : Nat} (hd : 2 ≤ d) : mt (mT g) d 53 [.int x1] M (pZ M) := by
  obtain ⟨d, rfl⟩ : ∃ e, d = e + 1 := ⟨d - 1, by omega⟩
  have hS := st.rf hW
  refine mt_in (b := mb_53 g) rfl rfl ?_
  show ml (mT g) d (mb_53 g).2 (0, [(0, .int x1)], [], M) _
  refine ml_blk 3 (S' := (4, [(0, .int x1)], [.int (x1 &&& 32768)], M)) rfl ?_
  refine ml_if (S1 := (9, [(0, .int x1)], [], M)) (S2 := (7, [(0, .int x1)], [], M)) rfl rfl rfl (fun c_4 => ?_) (fun c_4 => ?_)
  · have c_4 : (x1 &&& 32768) = 0 := of_decide_eq_true c_4
    refine ml_blk 3 (S' := (14, [(0, .int x1)], [.int (x1 &&& 512)], M)) rfl ?_
    refine ml_if (S1 := (39, [(0, .int x1)], [], M)) (S2 := (17, [(0, .int x1)], [], M)) rfl rfl rfl (fun c_14 => ?_) (fun c_14 => ?_)
    · have c_14 : (x1 &&& 512) = 0 := of_decide_eq_true c_14
      refine ml_blk 3 (S' := (44, [(0, .int x1)], [.int (x1 &&& 8192)], M)) rfl ?_
      refine ml_if (S1 := (61, [], [], M)) (S2 := (47, [(0, .int x1)], [], M)) rfl rfl rfl (fun c_44 => ?_) (fun c_44 => ?_)
      · have c_44 : ¬ (x1 &&& 8192) = 0 := of_decide_eq_true c_44
        refine ml_blk 1 (S' := (62, [], [.int 0], M)) rfl ?_
        exact ml_ret rfl (r_z (Or.inl rfl)) (⟨⟨_, rfl, Or.inl rfl⟩, rfl⟩)
      · have c_44 : ¬ (¬ (x1 &&& 8192) = 0) := of_decide_eq_false c_44
        refine ml_blk 2 (S' := (51, [(0, .int x1)], [.int 1040, .int x1], M)) rfl ?_
        refine ml_call (a := [.int x1, .int 1040]) (rest := []) rfl (rfl) rfl rfl (tw_Cl_hasAll hS.1  (by omega)) (fun v1 M2 h3 => ?_)
        obtain ⟨⟨x4, rfl, z5⟩, h3⟩ := h3
        rw [h3]
        show ml _ _ _ (54, [(0, .int x1)], [.int x4], M) _
        refine ml_if (S1 := (61, [], [], M)) (S2 := (57, [(0, .int x1)], [], M)) rfl rfl rfl (fun c_54 => ?_) (fun c_54 => ?_)
        · have c_54 : ¬ x4 = 0 := of_decide_eq_true c_54
          refine ml_blk 1 (S' := (62, [], [.int 0], M)) rfl ?_
          exact ml_ret rfl (r_z (Or.inl rfl)) (⟨⟨_, rfl, Or.inl rfl⟩, rfl⟩)
        · have c_54 : ¬ (¬ x4 = 0) := of_decide_eq_false c_54
          refine ml_blk 2 (S' := (62, [], [.int 1], M)) rfl ?_
          exact ml_ret rfl (r_z (Or.inr rfl)) (⟨⟨_, rfl, Or.inr rfl⟩, rfl⟩)
    · have c_14 : ¬ ((x1 &&& 512) = 0) := of_decide_eq_false c_14
      refine ml_blk 3 (S' := (22, [(0, .int x1)], [.int (x1 &&& 1024)], M)) rfl ?_
      refine ml_if (S1 := (37, [], [], M)) (S2 := (25, [(0, .int x1)], [], M)) rfl rfl rfl (fun c_22 => ?_) (fun c_22 => ?_)
      · have c_22 : (x1 &&& 1024) = 0 := of_decide_eq_true c_22
        refine ml_blk 1 (S' := (38, [], [.int 0], M)) rfl ?_
        exact ml_ret rfl (r_z (Or.inl rfl)) (⟨⟨_, rfl, Or.inl rfl⟩, rfl⟩)
      · have c_22 : ¬ ((x1 &&& 1024) = 0) := of_decide_eq_false c_22
        refine ml_blk 3 (S' := (30, [(0, .int x1)], [.int (x1 &&& 16432)], M)) rfl ?_
        refine ml_if (S1 := (37, [], [], M)) (S2 := (33, [(0, .int x1)], [], M)) rfl rfl rfl (fun c_30 => ?_) (fun c_30 => ?_)
        · have c_30 : ¬ (x1 &&& 16432) = 0 := of_decide_eq_true c_30
          refine ml_blk 1 (S' := (38, [], [.int 0], M)) rfl ?_
          exact ml_ret rfl (r_z (Or.inl rfl)) (⟨⟨_, rfl, Or.inl rfl⟩, rfl⟩)
        · have c_30 : ¬ (¬ (x1 &&& 16432) = 0) := of_decide_eq_false c_30
          refine ml_blk 2 (S' := (38, [], [.int 1], M)) rfl ?_
          exact ml_ret rfl (r_z (Or.inr rfl)) (⟨⟨_, rfl, Or.inr rfl⟩, rfl⟩)
  · have c_4 : ¬ ((x1 &&& 32768) = 0) := of_decide_eq_false c_4
    refine ml_blk 1 (S' := (8, [(0, .int x1)], [.int 0], M)) rfl ?_
    exact ml_ret rfl (r_z (Or.inl rfl)) (⟨⟨_, rfl, Or.inl rfl⟩, rfl⟩)
set_option maxHeartbeats 2000000 in
theorem tw_Po_sameMember {g : xe_G} {M : mi_H} {Y : yT} {p mm km da n : Nat} {pp : List Nat} {x2 x3 x4 : Int32}  (hW : WF g Y M) (hY0 : Y.1 p = some (7, pp)) (hY1 : Y.1 mm = some (23, [km, da, n])) {d : Nat} (hd : 3 ≤ d) : mt (mT g) d 132 [.ref p, .ref mm, .int x2, .int x3, .int x4] M (pI M) := by
  obtain ⟨d, rfl⟩ : ∃ e, d = e + 1 := ⟨d - 1, by omega⟩
  have hS := st.rf hW
  refine mt_in (b := mb_132 g) rfl rfl ?_
  show ml (mT g) d (mb_132 g).2 (0, [(0, .ref p), (1, .ref mm), (2, .int x2), (3, .int x3), (4, .int x4)], [], M) _
  refine ml_blk 2 (S' := (3, [(0, .ref p), (1, .ref mm), (2, .int x2), (3, .int x3), (4, .int x4), (5, .int 0)], [], M)) rfl ?_
  have L_3 : ∀ (n_3 : Nat) (i3_5 : Int32), (2147483648 - i3_5.toInt).toNat ≤ n_3 → 0 ≤ i3_5.toInt → ml (mT g) d (mb_132 g).2 (3, [(0, .ref p), (1, .ref mm), (2, .int x2), (3, .int x3), (4, .int x4), (5, .int i3_5)], [], M) (pI M) := by
    intro n_3
    induction n_3 with
    | zero => intro i3_5 hn; exact (loop_zero hn).elim
    | succ n_3 ih_3 =>
      intro i3_5 hn_3 hi_3
      refine ml_blk 2 (S' := (6, [(0, .ref p), (1, .ref mm), (2, .int x2), (3, .int x3), (4, .int x4), (5, .int i3_5)], [.int x2, .int i3_5], M)) rfl ?_
      refine ml_if2 (S1 := (63, [], [], M)) (S2 := (9, [(0, .ref p), (1, .ref mm), (2, .int x2), (3, .int x3), (4, .int x4), (5, .int i3_5)], [], M)) rfl rfl rfl (fun c_6 => ?_) (fun c_6 => ?_)
      · have c_6 : x2 ≤ i3_5 := of_decide_eq_true c_6
        refine ml_blk 1 (S' := (64, [], [.int (-1)], M)) rfl ?_
        exact ml_ret rfl (rfl) (⟨⟨_, rfl⟩, rfl⟩)
      · have c_6 : ¬ (x2 ≤ i3_5) := of_decide_eq_false c_6
        refine ml_blk 2 (S' := (12, [(0, .ref p), (1, .ref mm), (2, .int x2), (3, .int x3), (4, .int x4), (5, .int i3_5)], [.ref mm, .int i3_5], M)) rfl ?_
        refine tl_mem (S' := (13, [(0, .ref p), (1, .ref mm), (2, .int x2), (3, .int x3), (4, .int x4), (5, .int i3_5)], [.int (nI km), .int i3_5], M)) rfl hS.1 hY1 rfl ?_
        refine ml_if2 (S1 := (63, [], [], M)) (S2 := (16, [(0, .ref p), (1, .ref mm), (2, .int x2), (3, .int x3), (4, .int x4), (5, .int i3_5)], [], M)) rfl rfl rfl (fun c_13 => ?_) (fun c_13 => ?_)
        · have c_13 : (nI km) ≤ i3_5 := of_decide_eq_true c_13
          refine ml_blk 1 (S' := (64, [], [.int (-1)], M)) rfl ?_
          exact ml_ret rfl (rfl) (⟨⟨_, rfl⟩, rfl⟩)
        · have c_13 : ¬ ((nI km) ≤ i3_5) := of_decide_eq_false c_13
          refine ml_blk 2 (S' := (19, [(0, .ref p), (1, .ref mm), (2, .int x2), (3, .int x3), (4, .int x4), (5, .int i3_5)], [.int i3_5, .ref mm], M)) rfl ?_
          refine ta_mem rfl hS.1 hY1 (None) ?_ (fun b1 h2 => ?_)
          · show ml _ _ _ (20, [(0, .ref p), (1, .ref mm), (2, .int x2), (3, .int x3), (4, .int x4), (5, .int i3_5)], [.null], M) _
            refine ml_blk 5 (S' := (3, [(0, .ref p), (1, .ref mm), (2, .int x2), (3, .int x3), (4, .int x4), (5, .int (i3_5 + 1))], [], M)) rfl ?_
            exact ih_3 (i3_5 + 1) (loop_inc (Int32.not_le.mp c_6) hn_3) (by rw [inc_lt (Int32.not_le.mp c_6)]; omega) 
          · skip
            show ml _ _ _ (20, [(0, .ref p), (1, .ref mm), (2, .int x2), (3, .int x3), (4, .int x4), (5, .int i3_5)], [.ref b1], M) _
            refine ml_blk 5 (S' := (30, [(6, .ref b1), (0, .ref p), (1, .ref mm), (2, .int x2), (3, .int x3), (4, .int x4), (5, .int i3_5)], [.ref b1, .ref p], M)) rfl ?_
            refine tg_int rfl hS.1 h2 (by decide) rfl (fun x3 g4 => ?_)
            show ml _ _ _ (33, [(6, .ref b1), (0, .ref p), (1, .ref mm), (2, .int x2), (3, .int x3), (4, .int x4), (5, .int i3_5)], [.int x3, .ref p], M) _
            refine ml_blk 1 (S' := (34, [(6, .ref b1), (0, .ref p), (1, .ref mm), (2, .int x2), (3, .int x3), (4, .int x4), (5, .int i3_5)], [.int x3, .int x3, .ref p], M)) rfl ?_
            refine ml_call (a := [.ref p, .int x3, .int x3]) (rest := []) rfl (okc_t rfl rfl rfl hS.1 hY0 (by decide)) rfl rfl (tq_sameText hS.1 hY0 (by omega)) (fun v5 M6 h7 => ?_)
            obtain ⟨⟨x8, rfl, z9⟩, h7⟩ := h7
            rw [h7]
            show ml _ _ _ (37, [(6, .ref b1), (0, .ref p), (1, .ref mm), (2, .int x2), (3, .int x3), (4, .int x4), (5, .int i3_5)], [.int x8], M) _
            refine ml_if (S1 := (57, [(0, .ref p), (1, .ref mm), (2, .int x2), (3, .int x3), (4, .int x4), (5, .int i3_5)], [], M)) (S2 := (40, [(6, .ref b1), (0, .ref p), (1, .ref mm), (2, .int x2), (3, .int x3), (4, .int x4), (5, .int i3_5)], [], M)) rfl rfl rfl (fun c_37 => ?_) (fun c_37 => ?_)
            · have c_37 : x8 = 0 := of_decide_eq_true c_37
              refine ml_blk 2 (S' := (3, [(0, .ref p), (1, .ref mm), (2, .int x2), (3, .int x3), (4, .int x4), (5, .int (i3_5 + 1))], [], M)) rfl ?_
              exact ih_3 (i3_5 + 1) (loop_inc (Int32.not_le.mp c_6) hn_3) (by rw [inc_lt (Int32.not_le.mp c_6)]; omega) 
            · have c_37 : ¬ (x8 = 0) := of_decide_eq_false c_37
              refine ml_blk 2 (S' := (43, [(6, .ref b1), (0, .ref p), (1, .ref mm), (2, .int x2), (3, .int x3), (4, .int x4), (5, .int i3_5)], [.ref b1, .ref p], M)) rfl ?_
              refine tg_int rfl hS.1 h2 (by decide) rfl (fun x10 g11 => ?_)
              show ml _ _ _ (46, [(6, .ref b1), (0, .ref p), (1, .ref mm), (2, .int x2), (3, .int x3), (4, .int x4), (5, .int i3_5)], [.int x10, .ref p], M) _
              refine ml_blk 1 (S' := (48, [(6, .ref b1), (0, .ref p), (1, .ref mm), (2, .int x2), (3, .int x3), (4, .int x4), (5, .int i3_5)], [.int x4, .int x10, .ref p], M)) rfl ?_
              refine ml_call (a := [.ref p, .int x10, .int x4]) (rest := []) rfl (okc_t rfl rfl rfl hS.1 hY0 (by decide)) rfl rfl (tq_sameText hS.1 hY0 (by omega)) (fun v12 M13 h14 => ?_)
              obtain ⟨⟨x15, rfl, z16⟩, h14⟩ := h14
              rw [h14]
              show ml _ _ _ (51, [(6, .ref b1), (0, .ref p), (1, .ref mm), (2, .int x2), (3, .int x3), (4, .int x4), (5, .int i3_5)], [.int x15], M) _
              refine ml_if (S1 := (57, [(0, .ref p), (1, .ref mm), (2, .int x2), (3, .int x3), (4, .int x4), (5, .int i3_5)], [], M)) (S2 := (54, [(6, .ref b1), (0, .ref p), (1, .ref mm), (2, .int x2), (3, .int x3), (4, .int x4), (5, .int i3_5)], [], M)) rfl rfl rfl (fun c_51 => ?_) (fun c_51 => ?_)
              · have c_51 : x15 = 0 := of_decide_eq_true c_51
                refine ml_blk 2 (S' := (3, [(0, .ref p), (1, .ref mm), (2, .int x2), (3, .int x3), (4, .int x4), (5, .int (i3_5 + 1))], [], M)) rfl ?_
                exact ih_3 (i3_5 + 1) (loop_inc (Int32.not_le.mp c_6) hn_3) (by rw [inc_lt (Int32.not_le.mp c_6)]; omega) 
              · have c_51 : ¬ (x15 = 0) := of_decide_eq_false c_51
                refine ml_blk 1 (S' := (56, [(6, .ref b1), (0, .ref p), (1, .ref mm), (2, .int x2), (3, .int x3), (4, .int x4), (5, .int i3_5)], [.int i3_5], M)) rfl ?_
                exact ml_ret rfl (rfl) (⟨⟨_, rfl⟩, rfl⟩)
  exact L_3 _ 0 (Nat.le_refl _) (by decide) 
set_option maxHeartbeats 2000000 in
theorem tw_Cl_fieldFlagsHold {g : xe_G} {M : mi_H} {Y : yT} {a c b p vd ac da n : Nat} {pp : List Nat} {x1 : Int32}  (hW : WF g Y M) (hY0 : Y.1 a = some (2, [c, b, p, vd, ac])) (hY1 : Y.1 c = some (3, [b, da, n])) (hY2 : Y.1 b = some (1, [da, n])) (hY3 : Y.1 p = some (7, pp)) (hY4 : Y.1 vd = some (10, [])) (hY5 : Y.1 ac = some (0, [c, b, p, vd])) {d : Nat} (hd : 3 ≤ d) : mt (mT g) d 55 [.ref a, .int x1] M (pZ M) := by
  obtain ⟨d, rfl⟩ : ∃ e, d = e + 1 := ⟨d - 1, by omega⟩
  have hS := st.rf hW
  refine mt_in (b := mb_55 g) rfl rfl ?_
  show ml (mT g) d (mb_55 g).2 (0, [(0, .ref a), (1, .int x1)], [], M) _
  refine ml_blk 1 (S' := (1, [(0, .ref a), (1, .int x1)], [.ref a], M)) rfl ?_
  refine tg_ref (S' := (4, [(0, .ref a), (1, .int x1)], [.ref c], M)) rfl hS.1 hY0 (by decide) rfl rfl ?_
  refine ml_blk 1 (S' := (7, [(0, .ref a), (1, .int x1)], [.int 512, .ref c], M)) rfl ?_
  refine ml_call (a := [.ref c, .int 512]) (rest := []) rfl (okc_t rfl rfl rfl hS.1 hY1 (by decide)) rfl rfl (tw_Cl_has hS.1 hY1 hY2 (by omega)) (fun v1 M2 h3 => ?_)
  obtain ⟨⟨x4, rfl, z5⟩, h3⟩ := h3
  rw [h3]
  show ml _ _ _ (10, [(0, .ref a), (1, .int x1)], [.int x4], M) _
  refine ml_if (S1 := (31, [(0, .ref a), (1, .int x1)], [], M)) (S2 := (13, [(0, .ref a), (1, .int x1)], [], M)) rfl rfl rfl (fun c_10 => ?_) (fun c_10 => ?_)
  · have c_10 : x4 = 0 := of_decide_eq_true c_10
    refine ml_blk 1 (S' := (32, [(0, .ref a), (1, .int x1)], [.int x1], M)) rfl ?_
    refine ml_call (a := [.int x1]) (rest := []) rfl (rfl) rfl rfl (tw_Cl_hasOneAccessAtMost hS.1  (by omega)) (fun v6 M7 h8 => ?_)
    obtain ⟨⟨x9, rfl, z10⟩, h8⟩ := h8
    rw [h8]
    show ml _ _ _ (35, [(0, .ref a), (1, .int x1)], [.int x9], M) _
    refine ml_if (S1 := (51, [], [], M)) (S2 := (38, [(0, .ref a), (1, .int x1)], [], M)) rfl rfl rfl (fun c_35 => ?_) (fun c_35 => ?_)
    · have c_35 : x9 = 0 := of_decide_eq_true c_35
      refine ml_blk 1 (S' := (52, [], [.int 0], M)) rfl ?_
      exact ml_ret rfl (r_z (Or.inl rfl)) (⟨⟨_, rfl, Or.inl rfl⟩, rfl⟩)
    · have c_35 : ¬ (x9 = 0) := of_decide_eq_false c_35
      refine ml_blk 2 (S' := (41, [(0, .ref a), (1, .int x1)], [.int 80, .int x1], M)) rfl ?_
      refine ml_call (a := [.int x1, .int 80]) (rest := []) rfl (rfl) rfl rfl (tw_Cl_hasAll hS.1  (by omega)) (fun v11 M12 h13 => ?_)
      obtain ⟨⟨x14, rfl, z15⟩, h13⟩ := h13
      rw [h13]
      show ml _ _ _ (44, [(0, .ref a), (1, .int x1)], [.int x14], M) _
      refine ml_if (S1 := (51, [], [], M)) (S2 := (47, [(0, .ref a), (1, .int x1)], [], M)) rfl rfl rfl (fun c_44 => ?_) (fun c_44 => ?_)
      · have c_44 : ¬ x14 = 0 := of_decide_eq_true c_44
        refine ml_blk 1 (S' := (52, [], [.int 0], M)) rfl ?_
        exact ml_ret rfl (r_z (Or.inl rfl)) (⟨⟨_, rfl, Or.inl rfl⟩, rfl⟩)
      · have c_44 : ¬ (¬ x14 = 0) := of_decide_eq_false c_44
        refine ml_blk 2 (S' := (52, [], [.int 1], M)) rfl ?_
        exact ml_ret rfl (r_z (Or.inr rfl)) (⟨⟨_, rfl, Or.inr rfl⟩, rfl⟩)
  · have c_10 : ¬ (x4 = 0) := of_decide_eq_false c_10
    refine ml_blk 6 (S' := (22, [(2, .int 16607), (0, .ref a), (1, .int x1)], [.int 25, .int (x1 &&& 16607)], M)) rfl ?_
    refine ml_if2 (S1 := (29, [(2, .int 16607), (0, .ref a), (1, .int x1)], [], M)) (S2 := (25, [(2, .int 16607), (0, .ref a), (1, .int x1)], [], M)) rfl rfl rfl (fun c_22 => ?_) (fun c_22 => ?_)
    · have c_22 : ¬ (x1 &&& 16607) = 25 := of_decide_eq_true c_22
      refine ml_blk 1 (S' := (30, [], [.int 0], M)) rfl ?_
      exact ml_ret rfl (r_z (Or.inl rfl)) (⟨⟨_, rfl, Or.inl rfl⟩, rfl⟩)
    · have c_22 : ¬ (¬ (x1 &&& 16607) = 25) := of_decide_eq_false c_22
      refine ml_blk 2 (S' := (30, [], [.int 1], M)) rfl ?_
      exact ml_ret rfl (r_z (Or.inr rfl)) (⟨⟨_, rfl, Or.inr rfl⟩, rfl⟩)
set_option maxHeartbeats 2000000 in
theorem tw_Cl_abstractHolds {g : xe_G} {M : mi_H} {Y : yT} {a c b p vd ac da n me : Nat} {pp : List Nat}  (hW : WF g Y M) (hY0 : Y.1 a = some (2, [c, b, p, vd, ac])) (hY1 : Y.1 c = some (3, [b, da, n])) (hY2 : Y.1 b = some (1, [da, n])) (hY3 : Y.1 p = some (7, pp)) (hY4 : Y.1 vd = some (10, [])) (hY5 : Y.1 ac = some (0, [c, b, p, vd])) (hY6 : Y.1 me = some (6, [da, n])) {d : Nat} (hd : 2 ≤ d) : mt (mT g) d 52 [.ref a, .ref me] M (pZ M) := by
  obtain ⟨d, rfl⟩ : ∃ e, d = e + 1 := ⟨d - 1, by omega⟩
  have hS := st.rf hW
  refine mt_in (b := mb_52 g) rfl rfl ?_
  show ml (mT g) d (mb_52 g).2 (0, [(0, .ref a), (1, .ref me)], [], M) _
  refine ml_blk 2 (S' := (4, [(0, .ref a), (1, .ref me)], [.int 314, .ref me], M)) rfl ?_
  refine ml_call (a := [.ref me, .int 314]) (rest := []) rfl (okc_t rfl rfl rfl hS.1 hY6 (by decide)) rfl rfl (tw_Me_has hS.1 hY6 (by omega)) (fun v1 M2 h3 => ?_)
  obtain ⟨⟨x4, rfl, z5⟩, h3⟩ := h3
  rw [h3]
  show ml _ _ _ (7, [(0, .ref a), (1, .ref me)], [.int x4], M) _
  refine ml_if (S1 := (12, [(0, .ref a), (1, .ref me)], [], M)) (S2 := (10, [(0, .ref a), (1, .ref me)], [], M)) rfl rfl rfl (fun c_7 => ?_) (fun c_7 => ?_)
  · have c_7 : x4 = 0 := of_decide_eq_true c_7
    refine ml_blk 1 (S' := (13, [(0, .ref a), (1, .ref me)], [.ref a], M)) rfl ?_
    refine tg_ref (S' := (16, [(0, .ref a), (1, .ref me)], [.ref c], M)) rfl hS.1 hY0 (by decide) rfl rfl ?_
    refine tg_int rfl hS.1 hY1 (by decide) rfl (fun x6 g7 => ?_)
    show ml _ _ _ (19, [(0, .ref a), (1, .ref me)], [.int x6], M) _
    refine ml_blk 1 (S' := (21, [(0, .ref a), (1, .ref me)], [.int 46, .int x6], M)) rfl ?_
    refine ml_if2 (S1 := (46, [], [], M)) (S2 := (24, [(0, .ref a), (1, .ref me)], [], M)) rfl rfl rfl (fun c_21 => ?_) (fun c_21 => ?_)
    · have c_21 : x6 < 46 := of_decide_eq_true c_21
      refine ml_blk 2 (S' := (51, [], [.int 1], M)) rfl ?_
      exact ml_ret rfl (r_z (Or.inr rfl)) (⟨⟨_, rfl, Or.inr rfl⟩, rfl⟩)
    · have c_21 : ¬ (x6 < 46) := of_decide_eq_false c_21
      refine ml_blk 1 (S' := (25, [(0, .ref a), (1, .ref me)], [.ref a], M)) rfl ?_
      refine tg_ref (S' := (28, [(0, .ref a), (1, .ref me)], [.ref c], M)) rfl hS.1 hY0 (by decide) rfl rfl ?_
      refine ml_get (S' := (31, [(0, .ref a), (1, .ref me)], [.int x6], M)) rfl g7 rfl ?_
      refine ml_blk 1 (S' := (33, [(0, .ref a), (1, .ref me)], [.int 60, .int x6], M)) rfl ?_
      refine ml_if2 (S1 := (46, [], [], M)) (S2 := (36, [(0, .ref a), (1, .ref me)], [], M)) rfl rfl rfl (fun c_33 => ?_) (fun c_33 => ?_)
      · have c_33 : 60 < x6 := of_decide_eq_true c_33
        refine ml_blk 2 (S' := (51, [], [.int 1], M)) rfl ?_
        exact ml_ret rfl (r_z (Or.inr rfl)) (⟨⟨_, rfl, Or.inr rfl⟩, rfl⟩)
      · have c_33 : ¬ (60 < x6) := of_decide_eq_false c_33
        refine ml_blk 2 (S' := (40, [(0, .ref a), (1, .ref me)], [.int 2048, .ref me], M)) rfl ?_
        refine ml_call (a := [.ref me, .int 2048]) (rest := []) rfl (okc_t rfl rfl rfl hS.1 hY6 (by decide)) rfl rfl (tw_Me_has hS.1 hY6 (by omega)) (fun v8 M9 h10 => ?_)
        obtain ⟨⟨x11, rfl, z12⟩, h10⟩ := h10
        rw [h10]
        show ml _ _ _ (43, [(0, .ref a), (1, .ref me)], [.int x11], M) _
        refine ml_if (S1 := (50, [(0, .ref a), (1, .ref me)], [], M)) (S2 := (46, [], [], M)) rfl rfl rfl (fun c_43 => ?_) (fun c_43 => ?_)
        · have c_43 : ¬ x11 = 0 := of_decide_eq_true c_43
          refine ml_blk 1 (S' := (51, [], [.int 0], M)) rfl ?_
          exact ml_ret rfl (r_z (Or.inl rfl)) (⟨⟨_, rfl, Or.inl rfl⟩, rfl⟩)
        · have c_43 : ¬ (¬ x11 = 0) := of_decide_eq_false c_43
          refine ml_blk 2 (S' := (51, [], [.int 1], M)) rfl ?_
          exact ml_ret rfl (r_z (Or.inr rfl)) (⟨⟨_, rfl, Or.inr rfl⟩, rfl⟩)
  · have c_7 : ¬ (x4 = 0) := of_decide_eq_false c_7
    refine ml_blk 1 (S' := (11, [(0, .ref a), (1, .ref me)], [.int 0], M)) rfl ?_
    exact ml_ret rfl (r_z (Or.inl rfl)) (⟨⟨_, rfl, Or.inl rfl⟩, rfl⟩)
set_option maxHeartbeats 2000000 in
theorem tw_Cl_interfaceMethodHolds {g : xe_G} {M : mi_H} {Y : yT} {a c b p vd ac da n me : Nat} {pp : List Nat}  (hW : WF g Y M) (hY0 : Y.1 a = some (2, [c, b, p, vd, ac])) (hY1 : Y.1 c = some (3, [b, da, n])) (hY2 : Y.1 b = some (1, [da, n])) (hY3 : Y.1 p = some (7, pp)) (hY4 : Y.1 vd = some (10, [])) (hY5 : Y.1 ac = some (0, [c, b, p, vd])) (hY6 : Y.1 me = some (6, [da, n])) {d : Nat} (hd : 2 ≤ d) : mt (mT g) d 61 [.ref a, .ref me] M (pZ M) := by
  obtain ⟨d, rfl⟩ : ∃ e, d = e + 1 := ⟨d - 1, by omega⟩
  have hS := st.rf hW
  refine mt_in (b := mb_61 g) rfl rfl ?_
  show ml (mT g) d (mb_61 g).2 (0, [(0, .ref a), (1, .ref me)], [], M) _
  refine ml_blk 2 (S' := (4, [(0, .ref a), (1, .ref me)], [.int 308, .ref me], M)) rfl ?_
  refine ml_call (a := [.ref me, .int 308]) (rest := []) rfl (okc_t rfl rfl rfl hS.1 hY6 (by decide)) rfl rfl (tw_Me_has hS.1 hY6 (by omega)) (fun v1 M2 h3 => ?_)
  obtain ⟨⟨x4, rfl, z5⟩, h3⟩ := h3
  rw [h3]
  show ml _ _ _ (7, [(0, .ref a), (1, .ref me)], [.int x4], M) _
  refine ml_if (S1 := (12, [(0, .ref a), (1, .ref me)], [], M)) (S2 := (10, [(0, .ref a), (1, .ref me)], [], M)) rfl rfl rfl (fun c_7 => ?_) (fun c_7 => ?_)
  · have c_7 : x4 = 0 := of_decide_eq_true c_7
    refine ml_blk 1 (S' := (13, [(0, .ref a), (1, .ref me)], [.ref a], M)) rfl ?_
    refine tg_ref (S' := (16, [(0, .ref a), (1, .ref me)], [.ref c], M)) rfl hS.1 hY0 (by decide) rfl rfl ?_
    refine tg_int rfl hS.1 hY1 (by decide) rfl (fun x6 g7 => ?_)
    show ml _ _ _ (19, [(0, .ref a), (1, .ref me)], [.int x6], M) _
    refine ml_blk 1 (S' := (21, [(0, .ref a), (1, .ref me)], [.int 52, .int x6], M)) rfl ?_
    refine ml_if2 (S1 := (52, [(0, .ref a), (1, .ref me)], [], M)) (S2 := (24, [(0, .ref a), (1, .ref me)], [], M)) rfl rfl rfl (fun c_21 => ?_) (fun c_21 => ?_)
    · have c_21 : 52 ≤ x6 := of_decide_eq_true c_21
      refine ml_blk 2 (S' := (54, [(0, .ref a), (1, .ref me)], [.int 1, .ref me], M)) rfl ?_
      refine ml_call (a := [.ref me, .int 1]) (rest := []) rfl (okc_t rfl rfl rfl hS.1 hY6 (by decide)) rfl rfl (tw_Me_has hS.1 hY6 (by omega)) (fun v8 M9 h10 => ?_)
      obtain ⟨⟨x11, rfl, z12⟩, h10⟩ := h10
      rw [h10]
      show ml _ _ _ (57, [(0, .ref a), (1, .ref me)], [.int x11], M) _
      refine ml_blk 2 (S' := (59, [(0, .ref a), (1, .ref me)], [.int 2, .ref me, .int x11], M)) rfl ?_
      refine ml_call (a := [.ref me, .int 2]) (rest := [.int x11]) rfl (okc_t rfl rfl rfl hS.1 hY6 (by decide)) rfl rfl (tw_Me_has hS.1 hY6 (by omega)) (fun v13 M14 h15 => ?_)
      obtain ⟨⟨x16, rfl, z17⟩, h15⟩ := h15
      rw [h15]
      show ml _ _ _ (62, [(0, .ref a), (1, .ref me)], [.int x16, .int x11], M) _
      refine ml_if2 (S1 := (69, [(0, .ref a), (1, .ref me)], [], M)) (S2 := (65, [(0, .ref a), (1, .ref me)], [], M)) rfl rfl rfl (fun c_62 => ?_) (fun c_62 => ?_)
      · have c_62 : x11 = x16 := of_decide_eq_true c_62
        refine ml_blk 1 (S' := (70, [], [.int 0], M)) rfl ?_
        exact ml_ret rfl (r_z (Or.inl rfl)) (⟨⟨_, rfl, Or.inl rfl⟩, rfl⟩)
      · have c_62 : ¬ (x11 = x16) := of_decide_eq_false c_62
        refine ml_blk 2 (S' := (70, [], [.int 1], M)) rfl ?_
        exact ml_ret rfl (r_z (Or.inr rfl)) (⟨⟨_, rfl, Or.inr rfl⟩, rfl⟩)
    · have c_21 : ¬ (52 ≤ x6) := of_decide_eq_false c_21
      refine ml_blk 1 (S' := (25, [(0, .ref a), (1, .ref me)], [.ref me], M)) rfl ?_
      refine tg_int rfl hS.1 hY6 (by decide) rfl (fun x18 g19 => ?_)
      show ml _ _ _ (28, [(0, .ref a), (1, .ref me)], [.int x18], M) _
      refine ml_blk 1 (S' := (31, [(0, .ref a), (1, .ref me)], [.int 1025, .int x18], M)) rfl ?_
      refine ml_call (a := [.int x18, .int 1025]) (rest := []) rfl (rfl) rfl rfl (tw_Cl_hasAll hS.1  (by omega)) (fun v20 M21 h22 => ?_)
      obtain ⟨⟨x23, rfl, z24⟩, h22⟩ := h22
      rw [h22]
      show ml _ _ _ (34, [(0, .ref a), (1, .ref me)], [.int x23], M) _
      refine ml_if (S1 := (50, [], [], M)) (S2 := (37, [(0, .ref a), (1, .ref me)], [], M)) rfl rfl rfl (fun c_34 => ?_) (fun c_34 => ?_)
      · have c_34 : x23 = 0 := of_decide_eq_true c_34
        refine ml_blk 1 (S' := (51, [], [.int 0], M)) rfl ?_
        exact ml_ret rfl (r_z (Or.inl rfl)) (⟨⟨_, rfl, Or.inl rfl⟩, rfl⟩)
      · have c_34 : ¬ (x23 = 0) := of_decide_eq_false c_34
        refine ml_blk 2 (S' := (40, [(0, .ref a), (1, .ref me)], [.int 8, .ref me], M)) rfl ?_
        refine ml_call (a := [.ref me, .int 8]) (rest := []) rfl (okc_t rfl rfl rfl hS.1 hY6 (by decide)) rfl rfl (tw_Me_has hS.1 hY6 (by omega)) (fun v25 M26 h27 => ?_)
        obtain ⟨⟨x28, rfl, z29⟩, h27⟩ := h27
        rw [h27]
        show ml _ _ _ (43, [(0, .ref a), (1, .ref me)], [.int x28], M) _
        refine ml_if (S1 := (50, [], [], M)) (S2 := (46, [(0, .ref a), (1, .ref me)], [], M)) rfl rfl rfl (fun c_43 => ?_) (fun c_43 => ?_)
        · have c_43 : ¬ x28 = 0 := of_decide_eq_true c_43
          refine ml_blk 1 (S' := (51, [], [.int 0], M)) rfl ?_
          exact ml_ret rfl (r_z (Or.inl rfl)) (⟨⟨_, rfl, Or.inl rfl⟩, rfl⟩)
        · have c_43 : ¬ (¬ x28 = 0) := of_decide_eq_false c_43
          refine ml_blk 2 (S' := (51, [], [.int 1], M)) rfl ?_
          exact ml_ret rfl (r_z (Or.inr rfl)) (⟨⟨_, rfl, Or.inr rfl⟩, rfl⟩)
  · have c_7 : ¬ (x4 = 0) := of_decide_eq_false c_7
    refine ml_blk 1 (S' := (11, [(0, .ref a), (1, .ref me)], [.int 0], M)) rfl ?_
    exact ml_ret rfl (r_z (Or.inl rfl)) (⟨⟨_, rfl, Or.inl rfl⟩, rfl⟩)
set_option maxHeartbeats 2000000 in
theorem tw_Cl_methodDescriptorHolds {g : xe_G} {M : mi_H} {Y : yT} {a c b p vd ac da n me : Nat} {pp : List Nat}  (hW : WF g Y M) (hY0 : Y.1 a = some (2, [c, b, p, vd, ac])) (hY1 : Y.1 c = some (3, [b, da, n])) (hY2 : Y.1 b = some (1, [da, n])) (hY3 : Y.1 p = some (7, pp)) (hY4 : Y.1 vd = some (10, [])) (hY5 : Y.1 ac = some (0, [c, b, p, vd])) (hY6 : Y.1 me = some (6, [da, n])) {d : Nat} (hd : 4 ≤ d) : mt (mT g) d 63 [.ref a, .ref me] M (pZ M) := by
  obtain ⟨d, rfl⟩ : ∃ e, d = e + 1 := ⟨d - 1, by omega⟩
  have hS := st.rf hW
  refine mt_in (b := mb_63 g) rfl rfl ?_
  show ml (mT g) d (mb_63 g).2 (0, [(0, .ref a), (1, .ref me)], [], M) _
  refine ml_blk 1 (S' := (1, [(0, .ref a), (1, .ref me)], [.ref a], M)) rfl ?_
  refine tg_ref (S' := (4, [(0, .ref a), (1, .ref me)], [.ref p], M)) rfl hS.1 hY0 (by decide) rfl rfl ?_
  refine ml_blk 1 (S' := (5, [(0, .ref a), (1, .ref me)], [.ref me, .ref p], M)) rfl ?_
  refine tg_int rfl hS.1 hY6 (by decide) rfl (fun x1 g2 => ?_)
  show ml _ _ _ (8, [(0, .ref a), (1, .ref me)], [.int x1, .ref p], M) _
  refine ml_call (a := [.ref p, .int x1]) (rest := []) rfl (okc_t rfl rfl rfl hS.1 hY3 (by decide)) rfl rfl (tq_isMethodDescriptor hS.1 hY3 (by omega)) (fun v3 M4 h5 => ?_)
  obtain ⟨⟨x6, rfl, z7⟩, h5⟩ := h5
  rw [h5]
  show ml _ _ _ (11, [(0, .ref a), (1, .ref me)], [.int x6], M) _
  refine ml_if (S1 := (24, [], [], M)) (S2 := (14, [(0, .ref a), (1, .ref me)], [], M)) rfl rfl rfl (fun c_11 => ?_) (fun c_11 => ?_)
  · have c_11 : x6 = 0 := of_decide_eq_true c_11
    refine ml_blk 1 (S' := (25, [], [.int 0], M)) rfl ?_
    exact ml_ret rfl (r_z (Or.inl rfl)) (⟨⟨_, rfl, Or.inl rfl⟩, rfl⟩)
  · have c_11 : ¬ (x6 = 0) := of_decide_eq_false c_11
    refine ml_blk 1 (S' := (15, [(0, .ref a), (1, .ref me)], [.ref me], M)) rfl ?_
    refine tg_int rfl hS.1 hY6 (by decide) rfl (fun x8 g9 => ?_)
    show ml _ _ _ (18, [(0, .ref a), (1, .ref me)], [.int x8], M) _
    refine ml_blk 1 (S' := (21, [(0, .ref a), (1, .ref me)], [.int 255, .int x8], M)) rfl ?_
    refine ml_if2 (S1 := (26, [(0, .ref a), (1, .ref me)], [], M)) (S2 := (24, [], [], M)) rfl rfl rfl (fun c_21 => ?_) (fun c_21 => ?_)
    · have c_21 : x8 ≤ 255 := of_decide_eq_true c_21
      refine ml_blk 1 (S' := (27, [(0, .ref a), (1, .ref me)], [.ref a], M)) rfl ?_
      refine tg_ref (S' := (30, [(0, .ref a), (1, .ref me)], [.ref p], M)) rfl hS.1 hY0 (by decide) rfl rfl ?_
      refine ml_blk 1 (S' := (31, [(0, .ref a), (1, .ref me)], [.ref me, .ref p], M)) rfl ?_
      refine tg_int rfl hS.1 hY6 (by decide) rfl (fun x10 g11 => ?_)
      show ml _ _ _ (34, [(0, .ref a), (1, .ref me)], [.int x10, .ref p], M) _
      refine ml_blk 1 (S' := (36, [(0, .ref a), (1, .ref me)], [.ref (g.2.1 12), .int x10, .ref p], M)) rfl ?_
      refine ml_call (a := [.ref p, .int x10, .ref (g.2.1 12)]) (rest := []) rfl (okc_t rfl rfl rfl hS.1 hY3 (by decide)) rfl rfl (tq_textIs (lk := 12) hS.1 hY3 (by decide) (by omega)) (fun v12 M13 h14 => ?_)
      obtain ⟨⟨x15, rfl, z16⟩, h14⟩ := h14
      rw [h14]
      show ml _ _ _ (39, [(0, .ref a), (1, .ref me)], [.int x15], M) _
      refine ml_if (S1 := (56, [], [], M)) (S2 := (42, [(0, .ref a), (1, .ref me)], [], M)) rfl rfl rfl (fun c_39 => ?_) (fun c_39 => ?_)
      · have c_39 : x15 = 0 := of_decide_eq_true c_39
        refine ml_blk 2 (S' := (61, [], [.int 1], M)) rfl ?_
        exact ml_ret rfl (r_z (Or.inr rfl)) (⟨⟨_, rfl, Or.inr rfl⟩, rfl⟩)
      · have c_39 : ¬ (x15 = 0) := of_decide_eq_false c_39
        refine ml_blk 1 (S' := (43, [(0, .ref a), (1, .ref me)], [.ref a], M)) rfl ?_
        refine tg_ref (S' := (46, [(0, .ref a), (1, .ref me)], [.ref p], M)) rfl hS.1 hY0 (by decide) rfl rfl ?_
        refine ml_blk 1 (S' := (47, [(0, .ref a), (1, .ref me)], [.ref me, .ref p], M)) rfl ?_
        refine ml_get (S' := (50, [(0, .ref a), (1, .ref me)], [.int x1, .ref p], M)) rfl g2 rfl ?_
        refine ml_call (a := [.ref p, .int x1]) (rest := []) rfl (okc_t rfl rfl rfl hS.1 hY3 (by decide)) rfl rfl (tq_hasNoResult hS.1 hY3 (by omega)) (fun v17 M18 h19 => ?_)
        obtain ⟨⟨x20, rfl, z21⟩, h19⟩ := h19
        rw [h19]
        show ml _ _ _ (53, [(0, .ref a), (1, .ref me)], [.int x20], M) _
        refine ml_if (S1 := (60, [(0, .ref a), (1, .ref me)], [], M)) (S2 := (56, [], [], M)) rfl rfl rfl (fun c_53 => ?_) (fun c_53 => ?_)
        · have c_53 : x20 = 0 := of_decide_eq_true c_53
          refine ml_blk 1 (S' := (61, [], [.int 0], M)) rfl ?_
          exact ml_ret rfl (r_z (Or.inl rfl)) (⟨⟨_, rfl, Or.inl rfl⟩, rfl⟩)
        · have c_53 : ¬ (x20 = 0) := of_decide_eq_false c_53
          refine ml_blk 2 (S' := (61, [], [.int 1], M)) rfl ?_
          exact ml_ret rfl (r_z (Or.inr rfl)) (⟨⟨_, rfl, Or.inr rfl⟩, rfl⟩)
    · have c_21 : ¬ (x8 ≤ 255) := of_decide_eq_false c_21
      refine ml_blk 1 (S' := (25, [], [.int 0], M)) rfl ?_
      exact ml_ret rfl (r_z (Or.inl rfl)) (⟨⟨_, rfl, Or.inl rfl⟩, rfl⟩)
set_option maxHeartbeats 2000000 in
theorem tw_Cl_methodNameHolds {g : xe_G} {M : mi_H} {Y : yT} {a c b p vd ac da n : Nat} {pp : List Nat} {x1 : Int32}  (hW : WF g Y M) (hY0 : Y.1 a = some (2, [c, b, p, vd, ac])) (hY1 : Y.1 c = some (3, [b, da, n])) (hY2 : Y.1 b = some (1, [da, n])) (hY3 : Y.1 p = some (7, pp)) (hY4 : Y.1 vd = some (10, [])) (hY5 : Y.1 ac = some (0, [c, b, p, vd])) {d : Nat} (hd : 4 ≤ d) : mt (mT g) d 66 [.ref a, .int x1] M (pZ M) := by
  obtain ⟨d, rfl⟩ : ∃ e, d = e + 1 := ⟨d - 1, by omega⟩
  have hS := st.rf hW
  refine mt_in (b := mb_66 g) rfl rfl ?_
  show ml (mT g) d (mb_66 g).2 (0, [(0, .ref a), (1, .int x1)], [], M) _
  refine ml_blk 1 (S' := (1, [(0, .ref a), (1, .int x1)], [.ref a], M)) rfl ?_
  refine tg_ref (S' := (4, [(0, .ref a), (1, .int x1)], [.ref p], M)) rfl hS.1 hY0 (by decide) rfl rfl ?_
  refine ml_blk 2 (S' := (7, [(0, .ref a), (1, .int x1)], [.ref (g.2.1 12), .int x1, .ref p], M)) rfl ?_
  refine ml_call (a := [.ref p, .int x1, .ref (g.2.1 12)]) (rest := []) rfl (okc_t rfl rfl rfl hS.1 hY3 (by decide)) rfl rfl (tq_textIs (lk := 12) hS.1 hY3 (by decide) (by omega)) (fun v1 M2 h3 => ?_)
  obtain ⟨⟨x4, rfl, z5⟩, h3⟩ := h3
  rw [h3]
  show ml _ _ _ (10, [(0, .ref a), (1, .int x1)], [.int x4], M) _
  refine ml_if (S1 := (32, [(0, .ref a), (1, .int x1)], [], M)) (S2 := (13, [(0, .ref a), (1, .int x1)], [], M)) rfl rfl rfl (fun c_10 => ?_) (fun c_10 => ?_)
  · have c_10 : x4 = 0 := of_decide_eq_true c_10
    refine ml_blk 1 (S' := (33, [(0, .ref a), (1, .int x1)], [.ref a], M)) rfl ?_
    refine tg_ref (S' := (36, [(0, .ref a), (1, .int x1)], [.ref p], M)) rfl hS.1 hY0 (by decide) rfl rfl ?_
    refine ml_blk 2 (S' := (39, [(0, .ref a), (1, .int x1)], [.ref (g.2.1 13), .int x1, .ref p], M)) rfl ?_
    refine ml_call (a := [.ref p, .int x1, .ref (g.2.1 13)]) (rest := []) rfl (okc_t rfl rfl rfl hS.1 hY3 (by decide)) rfl rfl (tq_textIs (lk := 13) hS.1 hY3 (by decide) (by omega)) (fun v6 M7 h8 => ?_)
    obtain ⟨⟨x9, rfl, z10⟩, h8⟩ := h8
    rw [h8]
    show ml _ _ _ (42, [(0, .ref a), (1, .int x1)], [.int x9], M) _
    refine ml_if (S1 := (67, [], [], M)) (S2 := (45, [(0, .ref a), (1, .int x1)], [], M)) rfl rfl rfl (fun c_42 => ?_) (fun c_42 => ?_)
    · have c_42 : ¬ x9 = 0 := of_decide_eq_true c_42
      refine ml_blk 2 (S' := (72, [], [.int 1], M)) rfl ?_
      exact ml_ret rfl (r_z (Or.inr rfl)) (⟨⟨_, rfl, Or.inr rfl⟩, rfl⟩)
    · have c_42 : ¬ (¬ x9 = 0) := of_decide_eq_false c_42
      refine ml_blk 1 (S' := (46, [(0, .ref a), (1, .int x1)], [.ref a], M)) rfl ?_
      refine tg_ref (S' := (49, [(0, .ref a), (1, .int x1)], [.ref p], M)) rfl hS.1 hY0 (by decide) rfl rfl ?_
      refine ml_blk 1 (S' := (50, [(0, .ref a), (1, .int x1)], [.int x1, .ref p], M)) rfl ?_
      refine ml_call (a := [.ref p, .int x1]) (rest := []) rfl (okc_t rfl rfl rfl hS.1 hY3 (by decide)) rfl rfl (tq_isUnqualifiedName hS.1 hY3 (by omega)) (fun v11 M12 h13 => ?_)
      obtain ⟨⟨x14, rfl, z15⟩, h13⟩ := h13
      rw [h13]
      show ml _ _ _ (53, [(0, .ref a), (1, .int x1)], [.int x14], M) _
      refine ml_if (S1 := (71, [], [], M)) (S2 := (56, [(0, .ref a), (1, .int x1)], [], M)) rfl rfl rfl (fun c_53 => ?_) (fun c_53 => ?_)
      · have c_53 : x14 = 0 := of_decide_eq_true c_53
        refine ml_blk 1 (S' := (72, [], [.int 0], M)) rfl ?_
        exact ml_ret rfl (r_z (Or.inl rfl)) (⟨⟨_, rfl, Or.inl rfl⟩, rfl⟩)
      · have c_53 : ¬ (x14 = 0) := of_decide_eq_false c_53
        refine ml_blk 1 (S' := (57, [(0, .ref a), (1, .int x1)], [.ref a], M)) rfl ?_
        refine tg_ref (S' := (60, [(0, .ref a), (1, .int x1)], [.ref p], M)) rfl hS.1 hY0 (by decide) rfl rfl ?_
        refine ml_blk 1 (S' := (61, [(0, .ref a), (1, .int x1)], [.int x1, .ref p], M)) rfl ?_
        refine ml_call (a := [.ref p, .int x1]) (rest := []) rfl (okc_t rfl rfl rfl hS.1 hY3 (by decide)) rfl rfl (tq_hasAngle hS.1 hY3 (by omega)) (fun v16 M17 h18 => ?_)
        obtain ⟨⟨x19, rfl, z20⟩, h18⟩ := h18
        rw [h18]
        show ml _ _ _ (64, [(0, .ref a), (1, .int x1)], [.int x19], M) _
        refine ml_if (S1 := (71, [], [], M)) (S2 := (67, [], [], M)) rfl rfl rfl (fun c_64 => ?_) (fun c_64 => ?_)
        · have c_64 : ¬ x19 = 0 := of_decide_eq_true c_64
          refine ml_blk 1 (S' := (72, [], [.int 0], M)) rfl ?_
          exact ml_ret rfl (r_z (Or.inl rfl)) (⟨⟨_, rfl, Or.inl rfl⟩, rfl⟩)
        · have c_64 : ¬ (¬ x19 = 0) := of_decide_eq_false c_64
          refine ml_blk 2 (S' := (72, [], [.int 1], M)) rfl ?_
          exact ml_ret rfl (r_z (Or.inr rfl)) (⟨⟨_, rfl, Or.inr rfl⟩, rfl⟩)
  · have c_10 : ¬ (x4 = 0) := of_decide_eq_false c_10
    refine ml_blk 1 (S' := (14, [(0, .ref a), (1, .int x1)], [.ref a], M)) rfl ?_
    refine tg_ref (S' := (17, [(0, .ref a), (1, .int x1)], [.ref c], M)) rfl hS.1 hY0 (by decide) rfl rfl ?_
    refine ml_blk 1 (S' := (20, [(0, .ref a), (1, .int x1)], [.int 512, .ref c], M)) rfl ?_
    refine ml_call (a := [.ref c, .int 512]) (rest := []) rfl (okc_t rfl rfl rfl hS.1 hY1 (by decide)) rfl rfl (tw_Cl_has hS.1 hY1 hY2 (by omega)) (fun v21 M22 h23 => ?_)
    obtain ⟨⟨x24, rfl, z25⟩, h23⟩ := h23
    rw [h23]
    show ml _ _ _ (23, [(0, .ref a), (1, .int x1)], [.int x24], M) _
    refine ml_if (S1 := (30, [(0, .ref a), (1, .int x1)], [], M)) (S2 := (26, [(0, .ref a), (1, .int x1)], [], M)) rfl rfl rfl (fun c_23 => ?_) (fun c_23 => ?_)
    · have c_23 : ¬ x24 = 0 := of_decide_eq_true c_23
      refine ml_blk 1 (S' := (31, [], [.int 0], M)) rfl ?_
      exact ml_ret rfl (r_z (Or.inl rfl)) (⟨⟨_, rfl, Or.inl rfl⟩, rfl⟩)
    · have c_23 : ¬ (¬ x24 = 0) := of_decide_eq_false c_23
      refine ml_blk 2 (S' := (31, [], [.int 1], M)) rfl ?_
      exact ml_ret rfl (r_z (Or.inr rfl)) (⟨⟨_, rfl, Or.inr rfl⟩, rfl⟩)
set_option maxHeartbeats 2000000 in
theorem tw_Cl_methodFlagsHold {g : xe_G} {M : mi_H} {Y : yT} {a c b p vd ac da n me : Nat} {pp : List Nat}  (hW : WF g Y M) (hY0 : Y.1 a = some (2, [c, b, p, vd, ac])) (hY1 : Y.1 c = some (3, [b, da, n])) (hY2 : Y.1 b = some (1, [da, n])) (hY3 : Y.1 p = some (7, pp)) (hY4 : Y.1 vd = some (10, [])) (hY5 : Y.1 ac = some (0, [c, b, p, vd])) (hY6 : Y.1 me = some (6, [da, n])) {d : Nat} (hd : 3 ≤ d) : mt (mT g) d 64 [.ref a, .ref me] M (pZ M) := by
  obtain ⟨d, rfl⟩ : ∃ e, d = e + 1 := ⟨d - 1, by omega⟩
  have hS := st.rf hW
  refine mt_in (b := mb_64 g) rfl rfl ?_
  show ml (mT g) d (mb_64 g).2 (0, [(0, .ref a), (1, .ref me)], [], M) _
  refine ml_blk 1 (S' := (1, [(0, .ref a), (1, .ref me)], [.ref a], M)) rfl ?_
  refine tg_ref (S' := (4, [(0, .ref a), (1, .ref me)], [.ref p], M)) rfl hS.1 hY0 (by decide) rfl rfl ?_
  refine ml_blk 1 (S' := (5, [(0, .ref a), (1, .ref me)], [.ref me, .ref p], M)) rfl ?_
  refine tg_int rfl hS.1 hY6 (by decide) rfl (fun x1 g2 => ?_)
  show ml _ _ _ (8, [(0, .ref a), (1, .ref me)], [.int x1, .ref p], M) _
  refine ml_blk 1 (S' := (10, [(0, .ref a), (1, .ref me)], [.ref (g.2.1 13), .int x1, .ref p], M)) rfl ?_
  refine ml_call (a := [.ref p, .int x1, .ref (g.2.1 13)]) (rest := []) rfl (okc_t rfl rfl rfl hS.1 hY3 (by decide)) rfl rfl (tq_textIs (lk := 13) hS.1 hY3 (by decide) (by omega)) (fun v3 M4 h5 => ?_)
  obtain ⟨⟨x6, rfl, z7⟩, h5⟩ := h5
  rw [h5]
  show ml _ _ _ (13, [(0, .ref a), (1, .ref me)], [.int x6], M) _
  refine ml_if (S1 := (18, [(0, .ref a), (1, .ref me)], [], M)) (S2 := (16, [(0, .ref a), (1, .ref me)], [], M)) rfl rfl rfl (fun c_13 => ?_) (fun c_13 => ?_)
  · have c_13 : x6 = 0 := of_decide_eq_true c_13
    refine ml_blk 1 (S' := (19, [(0, .ref a), (1, .ref me)], [.ref a], M)) rfl ?_
    refine tg_ref (S' := (22, [(0, .ref a), (1, .ref me)], [.ref p], M)) rfl hS.1 hY0 (by decide) rfl rfl ?_
    refine ml_blk 1 (S' := (23, [(0, .ref a), (1, .ref me)], [.ref me, .ref p], M)) rfl ?_
    refine ml_get (S' := (26, [(0, .ref a), (1, .ref me)], [.int x1, .ref p], M)) rfl g2 rfl ?_
    refine ml_blk 1 (S' := (28, [(0, .ref a), (1, .ref me)], [.ref (g.2.1 12), .int x1, .ref p], M)) rfl ?_
    refine ml_call (a := [.ref p, .int x1, .ref (g.2.1 12)]) (rest := []) rfl (okc_t rfl rfl rfl hS.1 hY3 (by decide)) rfl rfl (tq_textIs (lk := 12) hS.1 hY3 (by decide) (by omega)) (fun v8 M9 h10 => ?_)
    obtain ⟨⟨x11, rfl, z12⟩, h10⟩ := h10
    rw [h10]
    show ml _ _ _ (31, [(0, .ref a), (1, .ref me)], [.int x11], M) _
    refine ml_if (S1 := (62, [(0, .ref a), (1, .ref me)], [], M)) (S2 := (34, [(0, .ref a), (1, .ref me)], [], M)) rfl rfl rfl (fun c_31 => ?_) (fun c_31 => ?_)
    · have c_31 : x11 = 0 := of_decide_eq_true c_31
      refine ml_blk 2 (S' := (66, [(0, .ref a), (1, .ref me)], [.int 1024, .ref me], M)) rfl ?_
      refine ml_call (a := [.ref me, .int 1024]) (rest := []) rfl (okc_t rfl rfl rfl hS.1 hY6 (by decide)) rfl rfl (tw_Me_has hS.1 hY6 (by omega)) (fun v13 M14 h15 => ?_)
      obtain ⟨⟨x16, rfl, z17⟩, h15⟩ := h15
      rw [h15]
      show ml _ _ _ (69, [(0, .ref a), (1, .ref me)], [.int x16], M) _
      refine ml_if (S1 := (82, [(0, .ref a), (1, .ref me)], [], M)) (S2 := (72, [(0, .ref a), (1, .ref me)], [], M)) rfl rfl rfl (fun c_69 => ?_) (fun c_69 => ?_)
      · have c_69 : x16 = 0 := of_decide_eq_true c_69
        refine ml_blk 1 (S' := (83, [(0, .ref a), (1, .ref me)], [.ref a], M)) rfl ?_
        refine tg_ref (S' := (86, [(0, .ref a), (1, .ref me)], [.ref c], M)) rfl hS.1 hY0 (by decide) rfl rfl ?_
        refine ml_blk 1 (S' := (89, [(0, .ref a), (1, .ref me)], [.int 512, .ref c], M)) rfl ?_
        refine ml_call (a := [.ref c, .int 512]) (rest := []) rfl (okc_t rfl rfl rfl hS.1 hY1 (by decide)) rfl rfl (tw_Cl_has hS.1 hY1 hY2 (by omega)) (fun v18 M19 h20 => ?_)
        obtain ⟨⟨x21, rfl, z22⟩, h20⟩ := h20
        rw [h20]
        show ml _ _ _ (92, [(0, .ref a), (1, .ref me)], [.int x21], M) _
        refine ml_if (S1 := (103, [(0, .ref a), (1, .ref me)], [], M)) (S2 := (95, [(0, .ref a), (1, .ref me)], [], M)) rfl rfl rfl (fun c_92 => ?_) (fun c_92 => ?_)
        · have c_92 : x21 = 0 := of_decide_eq_true c_92
          refine ml_blk 1 (S' := (104, [(0, .ref a), (1, .ref me)], [.ref me], M)) rfl ?_
          refine tg_int rfl hS.1 hY6 (by decide) rfl (fun x23 g24 => ?_)
          show ml _ _ _ (107, [(0, .ref a), (1, .ref me)], [.int x23], M) _
          refine ml_call (a := [.int x23]) (rest := []) rfl (rfl) rfl rfl (tw_Cl_hasOneAccessAtMost hS.1  (by omega)) (fun v25 M26 h27 => ?_)
          obtain ⟨⟨x28, rfl, z29⟩, h27⟩ := h27
          rw [h27]
          show ml _ _ _ (110, [], [.int x28], M) _
          exact ml_ret rfl (r_z (z29)) (⟨⟨_, rfl, z29⟩, rfl⟩)
        · have c_92 : ¬ (x21 = 0) := of_decide_eq_false c_92
          refine ml_blk 2 (S' := (97, [(0, .ref a), (1, .ref me)], [.ref me, .ref a], M)) rfl ?_
          refine ml_call (a := [.ref a, .ref me]) (rest := []) rfl (okc_t rfl rfl rfl hS.1 hY0 (by decide)) rfl rfl (tw_Cl_interfaceMethodHolds hS.1 hY0 hY1 hY2 hY3 hY4 hY5 hY6 (by omega)) (fun v30 M31 h32 => ?_)
          obtain ⟨⟨x33, rfl, z34⟩, h32⟩ := h32
          rw [h32]
          show ml _ _ _ (100, [(0, .ref a), (1, .ref me)], [.int x33], M) _
          refine ml_blk 1 (S' := (110, [], [.int x33], M)) rfl ?_
          exact ml_ret rfl (r_z (z34)) (⟨⟨_, rfl, z34⟩, rfl⟩)
      · have c_69 : ¬ (x16 = 0) := of_decide_eq_false c_69
        refine ml_blk 2 (S' := (74, [(0, .ref a), (1, .ref me)], [.ref me, .ref a], M)) rfl ?_
        refine ml_call (a := [.ref a, .ref me]) (rest := []) rfl (okc_t rfl rfl rfl hS.1 hY0 (by decide)) rfl rfl (tw_Cl_abstractHolds hS.1 hY0 hY1 hY2 hY3 hY4 hY5 hY6 (by omega)) (fun v35 M36 h37 => ?_)
        obtain ⟨⟨x38, rfl, z39⟩, h37⟩ := h37
        rw [h37]
        show ml _ _ _ (77, [(0, .ref a), (1, .ref me)], [.int x38], M) _
        refine ml_if (S1 := (82, [(0, .ref a), (1, .ref me)], [], M)) (S2 := (80, [(0, .ref a), (1, .ref me)], [], M)) rfl rfl rfl (fun c_77 => ?_) (fun c_77 => ?_)
        · have c_77 : ¬ x38 = 0 := of_decide_eq_true c_77
          refine ml_blk 1 (S' := (83, [(0, .ref a), (1, .ref me)], [.ref a], M)) rfl ?_
          refine tg_ref (S' := (86, [(0, .ref a), (1, .ref me)], [.ref c], M)) rfl hS.1 hY0 (by decide) rfl rfl ?_
          refine ml_blk 1 (S' := (89, [(0, .ref a), (1, .ref me)], [.int 512, .ref c], M)) rfl ?_
          refine ml_call (a := [.ref c, .int 512]) (rest := []) rfl (okc_t rfl rfl rfl hS.1 hY1 (by decide)) rfl rfl (tw_Cl_has hS.1 hY1 hY2 (by omega)) (fun v40 M41 h42 => ?_)
          obtain ⟨⟨x43, rfl, z44⟩, h42⟩ := h42
          rw [h42]
          show ml _ _ _ (92, [(0, .ref a), (1, .ref me)], [.int x43], M) _
          refine ml_if (S1 := (103, [(0, .ref a), (1, .ref me)], [], M)) (S2 := (95, [(0, .ref a), (1, .ref me)], [], M)) rfl rfl rfl (fun c_92 => ?_) (fun c_92 => ?_)
          · have c_92 : x43 = 0 := of_decide_eq_true c_92
            refine ml_blk 1 (S' := (104, [(0, .ref a), (1, .ref me)], [.ref me], M)) rfl ?_
            refine tg_int rfl hS.1 hY6 (by decide) rfl (fun x45 g46 => ?_)
            show ml _ _ _ (107, [(0, .ref a), (1, .ref me)], [.int x45], M) _
            refine ml_call (a := [.int x45]) (rest := []) rfl (rfl) rfl rfl (tw_Cl_hasOneAccessAtMost hS.1  (by omega)) (fun v47 M48 h49 => ?_)
            obtain ⟨⟨x50, rfl, z51⟩, h49⟩ := h49
            rw [h49]
            show ml _ _ _ (110, [], [.int x50], M) _
            exact ml_ret rfl (r_z (z51)) (⟨⟨_, rfl, z51⟩, rfl⟩)
          · have c_92 : ¬ (x43 = 0) := of_decide_eq_false c_92
            refine ml_blk 2 (S' := (97, [(0, .ref a), (1, .ref me)], [.ref me, .ref a], M)) rfl ?_
            refine ml_call (a := [.ref a, .ref me]) (rest := []) rfl (okc_t rfl rfl rfl hS.1 hY0 (by decide)) rfl rfl (tw_Cl_interfaceMethodHolds hS.1 hY0 hY1 hY2 hY3 hY4 hY5 hY6 (by omega)) (fun v52 M53 h54 => ?_)
            obtain ⟨⟨x55, rfl, z56⟩, h54⟩ := h54
            rw [h54]
            show ml _ _ _ (100, [(0, .ref a), (1, .ref me)], [.int x55], M) _
            refine ml_blk 1 (S' := (110, [], [.int x55], M)) rfl ?_
            exact ml_ret rfl (r_z (z56)) (⟨⟨_, rfl, z56⟩, rfl⟩)
        · have c_77 : ¬ (¬ x38 = 0) := of_decide_eq_false c_77
          refine ml_blk 1 (S' := (81, [(0, .ref a), (1, .ref me)], [.int 0], M)) rfl ?_
          exact ml_ret rfl (r_z (Or.inl rfl)) (⟨⟨_, rfl, Or.inl rfl⟩, rfl⟩)
    · have c_31 : ¬ (x11 = 0) := of_decide_eq_false c_31
      refine ml_blk 3 (S' := (39, [(2, .int 1400), (0, .ref a), (1, .ref me)], [.ref me], M)) rfl ?_
      refine tg_int rfl hS.1 hY6 (by decide) rfl (fun x57 g58 => ?_)
      show ml _ _ _ (42, [(2, .int 1400), (0, .ref a), (1, .ref me)], [.int x57], M) _
      refine ml_call (a := [.int x57]) (rest := []) rfl (rfl) rfl rfl (tw_Cl_hasOneAccessAtMost hS.1  (by omega)) (fun v59 M60 h61 => ?_)
      obtain ⟨⟨x62, rfl, z63⟩, h61⟩ := h61
      rw [h61]
      show ml _ _ _ (45, [(2, .int 1400), (0, .ref a), (1, .ref me)], [.int x62], M) _
      refine ml_if (S1 := (60, [], [], M)) (S2 := (48, [(2, .int 1400), (0, .ref a), (1, .ref me)], [], M)) rfl rfl rfl (fun c_45 => ?_) (fun c_45 => ?_)
      · have c_45 : x62 = 0 := of_decide_eq_true c_45
        refine ml_blk 1 (S' := (61, [], [.int 0], M)) rfl ?_
        exact ml_ret rfl (r_z (Or.inl rfl)) (⟨⟨_, rfl, Or.inl rfl⟩, rfl⟩)
      · have c_45 : ¬ (x62 = 0) := of_decide_eq_false c_45
        refine ml_blk 2 (S' := (50, [(2, .int 1400), (0, .ref a), (1, .ref me)], [.int 1400, .ref me], M)) rfl ?_
        refine ml_call (a := [.ref me, .int 1400]) (rest := []) rfl (okc_t rfl rfl rfl hS.1 hY6 (by decide)) rfl rfl (tw_Me_has hS.1 hY6 (by omega)) (fun v64 M65 h66 => ?_)
        obtain ⟨⟨x67, rfl, z68⟩, h66⟩ := h66
        rw [h66]
        show ml _ _ _ (53, [(2, .int 1400), (0, .ref a), (1, .ref me)], [.int x67], M) _
        refine ml_if (S1 := (60, [], [], M)) (S2 := (56, [(2, .int 1400), (0, .ref a), (1, .ref me)], [], M)) rfl rfl rfl (fun c_53 => ?_) (fun c_53 => ?_)
        · have c_53 : ¬ x67 = 0 := of_decide_eq_true c_53
          refine ml_blk 1 (S' := (61, [], [.int 0], M)) rfl ?_
          exact ml_ret rfl (r_z (Or.inl rfl)) (⟨⟨_, rfl, Or.inl rfl⟩, rfl⟩)
        · have c_53 : ¬ (¬ x67 = 0) := of_decide_eq_false c_53
          refine ml_blk 2 (S' := (61, [], [.int 1], M)) rfl ?_
          exact ml_ret rfl (r_z (Or.inr rfl)) (⟨⟨_, rfl, Or.inr rfl⟩, rfl⟩)
  · have c_13 : ¬ (x6 = 0) := of_decide_eq_false c_13
    refine ml_blk 1 (S' := (17, [(0, .ref a), (1, .ref me)], [.int 1], M)) rfl ?_
    exact ml_ret rfl (r_z (Or.inr rfl)) (⟨⟨_, rfl, Or.inr rfl⟩, rfl⟩)
set_option maxHeartbeats 2000000 in
theorem tw_Cl_headHolds {g : xe_G} {M : mi_H} {Y : yT} {a c b p vd ac da n : Nat} {pp : List Nat}  (hW : WF g Y M) (hY0 : Y.1 a = some (2, [c, b, p, vd, ac])) (hY1 : Y.1 c = some (3, [b, da, n])) (hY2 : Y.1 b = some (1, [da, n])) (hY3 : Y.1 p = some (7, pp)) (hY4 : Y.1 vd = some (10, [])) (hY5 : Y.1 ac = some (0, [c, b, p, vd])) {d : Nat} (hd : 4 ≤ d) : mt (mT g) d 60 [.ref a] M (qZ g Y M) := by
  obtain ⟨d, rfl⟩ : ∃ e, d = e + 1 := ⟨d - 1, by omega⟩
  have hS := st.rf hW
  refine mt_in (b := mb_60 g) rfl rfl ?_
  show ml (mT g) d (mb_60 g).2 (0, [(0, .ref a)], [], M) _
  refine ml_blk 1 (S' := (1, [(0, .ref a)], [.ref a], M)) rfl ?_
  refine tg_ref (S' := (4, [(0, .ref a)], [.ref c], M)) rfl hS.1 hY0 (by decide) rfl rfl ?_
  refine tg_int rfl hS.1 hY1 (by decide) rfl (fun x1 g2 => ?_)
  show ml _ _ _ (7, [(0, .ref a)], [.int x1], M) _
  refine ml_blk 2 (S' := (9, [(1, .int x1), (0, .ref a)], [.ref a], M)) rfl ?_
  refine tg_ref (S' := (12, [(1, .int x1), (0, .ref a)], [.ref b], M)) rfl hS.1 hY0 (by decide) rfl rfl ?_
  refine ml_blk 1 (S' := (13, [(1, .int x1), (0, .ref a)], [.int x1, .ref b], M)) rfl ?_
  refine ml_call (a := [.ref b, .int x1]) (rest := []) rfl (okc_t rfl rfl rfl hS.1 hY2 (by decide)) rfl rfl (tq_u2 hS.1 hY2 (by omega)) (fun v3 M4 h5 => ?_)
  obtain ⟨⟨x6, rfl⟩, h5⟩ := h5
  rw [h5]
  show ml _ _ _ (16, [(1, .int x1), (0, .ref a)], [.int x6], M) _
  refine ml_call (a := [.int x6]) (rest := []) rfl (rfl) rfl rfl (tw_Cl_classFlagsHold hS.1  (by omega)) (fun v7 M8 h9 => ?_)
  obtain ⟨⟨x10, rfl, z11⟩, h9⟩ := h9
  rw [h9]
  show ml _ _ _ (19, [(1, .int x1), (0, .ref a)], [.int x10], M) _
  refine ml_if (S1 := (33, [(1, .int x1), (0, .ref a)], [], M)) (S2 := (22, [(1, .int x1), (0, .ref a)], [], M)) rfl rfl rfl (fun c_19 => ?_) (fun c_19 => ?_)
  · have c_19 : ¬ x10 = 0 := of_decide_eq_true c_19
    refine ml_blk 1 (S' := (34, [(1, .int x1), (0, .ref a)], [.ref a], M)) rfl ?_
    refine tg_ref (S' := (37, [(1, .int x1), (0, .ref a)], [.ref p], M)) rfl hS.1 hY0 (by decide) rfl rfl ?_
    refine ml_blk 1 (S' := (38, [(1, .int x1), (0, .ref a)], [.ref a, .ref p], M)) rfl ?_
    refine tg_ref (S' := (41, [(1, .int x1), (0, .ref a)], [.ref b, .ref p], M)) rfl hS.1 hY0 (by decide) rfl rfl ?_
    refine ml_blk 3 (S' := (44, [(1, .int x1), (0, .ref a)], [.int (x1 + 2), .ref b, .ref p], M)) rfl ?_
    refine ml_call (a := [.ref b, .int (x1 + 2)]) (rest := [.ref p]) rfl (okc_t rfl rfl rfl hS.1 hY2 (by decide)) rfl rfl (tq_u2 hS.1 hY2 (by omega)) (fun v12 M13 h14 => ?_)
    obtain ⟨⟨x15, rfl⟩, h14⟩ := h14
    rw [h14]
    show ml _ _ _ (47, [(1, .int x1), (0, .ref a)], [.int x15, .ref p], M) _
    refine ml_call (a := [.ref p, .int x15]) (rest := []) rfl (okc_t rfl rfl rfl hS.1 hY3 (by decide)) rfl rfl (tq_isPlainClass hS.1 hY3 (by omega)) (fun v16 M17 h18 => ?_)
    obtain ⟨⟨x19, rfl, z20⟩, h18⟩ := h18
    rw [h18]
    show ml _ _ _ (50, [(1, .int x1), (0, .ref a)], [.int x19], M) _
    refine ml_if (S1 := (66, [(1, .int x1), (0, .ref a)], [], M)) (S2 := (53, [(1, .int x1), (0, .ref a)], [], M)) rfl rfl rfl (fun c_50 => ?_) (fun c_50 => ?_)
    · have c_50 : ¬ x19 = 0 := of_decide_eq_true c_50
      refine ml_blk 1 (S' := (67, [(1, .int x1), (0, .ref a)], [.ref a], M)) rfl ?_
      refine tg_ref (S' := (70, [(1, .int x1), (0, .ref a)], [.ref b], M)) rfl hS.1 hY0 (by decide) rfl rfl ?_
      refine ml_blk 3 (S' := (73, [(1, .int x1), (0, .ref a)], [.int (x1 + 4), .ref b], M)) rfl ?_
      refine ml_call (a := [.ref b, .int (x1 + 4)]) (rest := []) rfl (okc_t rfl rfl rfl hS.1 hY2 (by decide)) rfl rfl (tq_u2 hS.1 hY2 (by omega)) (fun v21 M22 h23 => ?_)
      obtain ⟨⟨x24, rfl⟩, h23⟩ := h23
      rw [h23]
      show ml _ _ _ (76, [(1, .int x1), (0, .ref a)], [.int x24], M) _
      refine ml_blk 2 (S' := (78, [(2, .int x24), (1, .int x1), (0, .ref a)], [.ref a], M)) rfl ?_
      refine tg_ref (S' := (81, [(2, .int x24), (1, .int x1), (0, .ref a)], [.ref p], M)) rfl hS.1 hY0 (by decide) rfl rfl ?_
      refine ml_blk 1 (S' := (82, [(2, .int x24), (1, .int x1), (0, .ref a)], [.int x24, .ref p], M)) rfl ?_
      refine ml_call (a := [.ref p, .int x24]) (rest := []) rfl (okc_t rfl rfl rfl hS.1 hY3 (by decide)) rfl rfl (tq_isPlainClass hS.1 hY3 (by omega)) (fun v25 M26 h27 => ?_)
      obtain ⟨⟨x28, rfl, z29⟩, h27⟩ := h27
      rw [h27]
      show ml _ _ _ (85, [(2, .int x24), (1, .int x1), (0, .ref a)], [.int x28], M) _
      refine ml_if (S1 := (101, [(2, .int x24), (1, .int x1), (0, .ref a)], [], M)) (S2 := (88, [(2, .int x24), (1, .int x1), (0, .ref a)], [], M)) rfl rfl rfl (fun c_85 => ?_) (fun c_85 => ?_)
      · have c_85 : ¬ x28 = 0 := of_decide_eq_true c_85
        refine ml_blk 1 (S' := (102, [(2, .int x24), (1, .int x1), (0, .ref a)], [.ref a], M)) rfl ?_
        refine tg_ref (S' := (105, [(2, .int x24), (1, .int x1), (0, .ref a)], [.ref c], M)) rfl hS.1 hY0 (by decide) rfl rfl ?_
        refine ml_blk 1 (S' := (108, [(2, .int x24), (1, .int x1), (0, .ref a)], [.int 512, .ref c], M)) rfl ?_
        refine ml_call (a := [.ref c, .int 512]) (rest := []) rfl (okc_t rfl rfl rfl hS.1 hY1 (by decide)) rfl rfl (tw_Cl_has hS.1 hY1 hY2 (by omega)) (fun v30 M31 h32 => ?_)
        obtain ⟨⟨x33, rfl, z34⟩, h32⟩ := h32
        rw [h32]
        show ml _ _ _ (111, [(2, .int x24), (1, .int x1), (0, .ref a)], [.int x33], M) _
        refine ml_if (S1 := (147, [], [], M)) (S2 := (114, [(2, .int x24), (1, .int x1), (0, .ref a)], [], M)) rfl rfl rfl (fun c_111 => ?_) (fun c_111 => ?_)
        · have c_111 : x33 = 0 := of_decide_eq_true c_111
          refine ml_blk 1 (S' := (148, [], [.int 1], M)) rfl ?_
          exact ml_ret rfl (r_z (Or.inr rfl)) (⟨⟨_, rfl, Or.inr rfl⟩, hS⟩)
        · have c_111 : ¬ (x33 = 0) := of_decide_eq_false c_111
          refine ml_blk 1 (S' := (115, [(2, .int x24), (1, .int x1), (0, .ref a)], [.ref a], M)) rfl ?_
          refine tg_ref (S' := (118, [(2, .int x24), (1, .int x1), (0, .ref a)], [.ref p], M)) rfl hS.1 hY0 (by decide) rfl rfl ?_
          refine ml_blk 1 (S' := (119, [(2, .int x24), (1, .int x1), (0, .ref a)], [.ref a, .ref p], M)) rfl ?_
          refine tg_ref (S' := (122, [(2, .int x24), (1, .int x1), (0, .ref a)], [.ref p, .ref p], M)) rfl hS.1 hY0 (by decide) rfl rfl ?_
          refine ml_blk 1 (S' := (123, [(2, .int x24), (1, .int x1), (0, .ref a)], [.int x24, .ref p, .ref p], M)) rfl ?_
          refine ml_call (a := [.ref p, .int x24]) (rest := [.ref p]) rfl (okc_t rfl rfl rfl hS.1 hY3 (by decide)) rfl rfl (tq_firstIndex hS.1 hY3 (by omega)) (fun v35 M36 h37 => ?_)
          obtain ⟨⟨x38, rfl⟩, h37⟩ := h37
          rw [h37]
          show ml _ _ _ (126, [(2, .int x24), (1, .int x1), (0, .ref a)], [.int x38, .ref p], M) _
          refine ml_blk 1 (S' := (128, [(2, .int x24), (1, .int x1), (0, .ref a)], [.ref (g.2.1 11), .int x38, .ref p], M)) rfl ?_
          refine ml_call (a := [.ref p, .int x38, .ref (g.2.1 11)]) (rest := []) rfl (okc_t rfl rfl rfl hS.1 hY3 (by decide)) rfl rfl (tq_textIs (lk := 11) hS.1 hY3 (by decide) (by omega)) (fun v39 M40 h41 => ?_)
          obtain ⟨⟨x42, rfl, z43⟩, h41⟩ := h41
          rw [h41]
          show ml _ _ _ (131, [(2, .int x24), (1, .int x1), (0, .ref a)], [.int x42], M) _
          refine ml_if (S1 := (147, [], [], M)) (S2 := (134, [(2, .int x24), (1, .int x1), (0, .ref a)], [], M)) rfl rfl rfl (fun c_131 => ?_) (fun c_131 => ?_)
          · have c_131 : ¬ x42 = 0 := of_decide_eq_true c_131
            refine ml_blk 1 (S' := (148, [], [.int 1], M)) rfl ?_
            exact ml_ret rfl (r_z (Or.inr rfl)) (⟨⟨_, rfl, Or.inr rfl⟩, hS⟩)
          · have c_131 : ¬ (¬ x42 = 0) := of_decide_eq_false c_131
            refine ml_blk 1 (S' := (135, [(2, .int x24), (1, .int x1), (0, .ref a)], [.ref a], M)) rfl ?_
            refine tg_ref (S' := (138, [(2, .int x24), (1, .int x1), (0, .ref a)], [.ref vd], M)) rfl hS.1 hY0 (by decide) rfl rfl ?_
            refine ml_blk 4 (S' := (143, [(2, .int x24), (1, .int x1), (0, .ref a)], [.int (x1 + 4), .int 17, .ref vd], M)) rfl ?_
            refine ml_call (a := [.ref vd, .int 17, .int (x1 + 4)]) (rest := []) rfl (okc_t rfl rfl rfl hS.1 hY4 (by decide)) rfl rfl (tw_Ve_wrong hS.1 hY4 (by omega)) (fun v44 M45 h46 => ?_)
            obtain ⟨⟨x47, rfl, z48⟩, h46⟩ := h46
            have hS49 := hS.tr h46
            show ml _ _ _ (146, [(2, .int x24), (1, .int x1), (0, .ref a)], [.int x47], M45) _
            exact ml_ret rfl (r_z (z48)) (⟨⟨_, rfl, z48⟩, hS49⟩)
      · have c_85 : ¬ (¬ x28 = 0) := of_decide_eq_false c_85
        refine ml_blk 1 (S' := (89, [(2, .int x24), (1, .int x1), (0, .ref a)], [.ref a], M)) rfl ?_
        refine tg_ref (S' := (92, [(2, .int x24), (1, .int x1), (0, .ref a)], [.ref vd], M)) rfl hS.1 hY0 (by decide) rfl rfl ?_
        refine ml_blk 4 (S' := (97, [(2, .int x24), (1, .int x1), (0, .ref a)], [.int (x1 + 4), .int 17, .ref vd], M)) rfl ?_
        refine ml_call (a := [.ref vd, .int 17, .int (x1 + 4)]) (rest := []) rfl (okc_t rfl rfl rfl hS.1 hY4 (by decide)) rfl rfl (tw_Ve_wrong hS.1 hY4 (by omega)) (fun v50 M51 h52 => ?_)
        obtain ⟨⟨x53, rfl, z54⟩, h52⟩ := h52
        have hS55 := hS.tr h52
        show ml _ _ _ (100, [(2, .int x24), (1, .int x1), (0, .ref a)], [.int x53], M51) _
        exact ml_ret rfl (r_z (z54)) (⟨⟨_, rfl, z54⟩, hS55⟩)
    · have c_50 : ¬ (¬ x19 = 0) := of_decide_eq_false c_50
      refine ml_blk 1 (S' := (54, [(1, .int x1), (0, .ref a)], [.ref a], M)) rfl ?_
      refine tg_ref (S' := (57, [(1, .int x1), (0, .ref a)], [.ref vd], M)) rfl hS.1 hY0 (by decide) rfl rfl ?_
      refine ml_blk 4 (S' := (62, [(1, .int x1), (0, .ref a)], [.int (x1 + 2), .int 16, .ref vd], M)) rfl ?_
      refine ml_call (a := [.ref vd, .int 16, .int (x1 + 2)]) (rest := []) rfl (okc_t rfl rfl rfl hS.1 hY4 (by decide)) rfl rfl (tw_Ve_wrong hS.1 hY4 (by omega)) (fun v56 M57 h58 => ?_)
      obtain ⟨⟨x59, rfl, z60⟩, h58⟩ := h58
      have hS61 := hS.tr h58
      show ml _ _ _ (65, [(1, .int x1), (0, .ref a)], [.int x59], M57) _
      exact ml_ret rfl (r_z (z60)) (⟨⟨_, rfl, z60⟩, hS61⟩)
  · have c_19 : ¬ (¬ x10 = 0) := of_decide_eq_false c_19
    refine ml_blk 1 (S' := (23, [(1, .int x1), (0, .ref a)], [.ref a], M)) rfl ?_
    refine tg_ref (S' := (26, [(1, .int x1), (0, .ref a)], [.ref vd], M)) rfl hS.1 hY0 (by decide) rfl rfl ?_
    refine ml_blk 2 (S' := (29, [(1, .int x1), (0, .ref a)], [.int x1, .int 15, .ref vd], M)) rfl ?_
    refine ml_call (a := [.ref vd, .int 15, .int x1]) (rest := []) rfl (okc_t rfl rfl rfl hS.1 hY4 (by decide)) rfl rfl (tw_Ve_wrong hS.1 hY4 (by omega)) (fun v62 M63 h64 => ?_)
    obtain ⟨⟨x65, rfl, z66⟩, h64⟩ := h64
    have hS67 := hS.tr h64
    show ml _ _ _ (32, [(1, .int x1), (0, .ref a)], [.int x65], M63) _
    exact ml_ret rfl (r_z (z66)) (⟨⟨_, rfl, z66⟩, hS67⟩)
set_option maxHeartbeats 2000000 in
theorem tw_Cl_interfacesHold {g : xe_G} {M : mi_H} {Y : yT} {a c b p vd ac da n : Nat} {pp : List Nat}  (hW : WF g Y M) (hY0 : Y.1 a = some (2, [c, b, p, vd, ac])) (hY1 : Y.1 c = some (3, [b, da, n])) (hY2 : Y.1 b = some (1, [da, n])) (hY3 : Y.1 p = some (7, pp)) (hY4 : Y.1 vd = some (10, [])) (hY5 : Y.1 ac = some (0, [c, b, p, vd])) {d : Nat} (hd : 4 ≤ d) : mt (mT g) d 62 [.ref a] M (qZ g Y M) := by
  obtain ⟨d, rfl⟩ : ∃ e, d = e + 1 := ⟨d - 1, by omega⟩
  have hS := st.rf hW
  refine mt_in (b := mb_62 g) rfl rfl ?_
  show ml (mT g) d (mb_62 g).2 (0, [(0, .ref a)], [], M) _
  refine ml_blk 1 (S' := (1, [(0, .ref a)], [.ref a], M)) rfl ?_
  refine tg_ref (S' := (4, [(0, .ref a)], [.ref c], M)) rfl hS.1 hY0 (by decide) rfl rfl ?_
  refine tg_int rfl hS.1 hY1 (by decide) rfl (fun x1 g2 => ?_)
  show ml _ _ _ (7, [(0, .ref a)], [.int x1], M) _
  refine ml_blk 5 (S' := (13, [(0, .ref a), (1, .int (x1 + 8)), (2, .int 0)], [], M)) rfl ?_
  have L_13 : ∀ (n_13 : Nat) (i13_2 : Int32), (2147483648 - i13_2.toInt).toNat ≤ n_13 → ml (mT g) d (mb_62 g).2 (13, [(0, .ref a), (1, .int (x1 + 8)), (2, .int i13_2)], [], M) (qZ g Y M) := by
    intro n_13
    induction n_13 with
    | zero => intro i13_2 hn; exact (loop_zero hn).elim
    | succ n_13 ih_13 =>
      intro i13_2 hn_13
      refine ml_blk 2 (S' := (15, [(0, .ref a), (1, .int (x1 + 8)), (2, .int i13_2)], [.ref a, .int i13_2], M)) rfl ?_
      refine tg_ref (S' := (18, [(0, .ref a), (1, .int (x1 + 8)), (2, .int i13_2)], [.ref c, .int i13_2], M)) rfl hS.1 hY0 (by decide) rfl rfl ?_
      refine tg_int rfl hS.1 hY1 (by decide) rfl (fun x3 g4 => ?_)
      show ml _ _ _ (21, [(0, .ref a), (1, .int (x1 + 8)), (2, .int i13_2)], [.int x3, .int i13_2], M) _
      refine ml_if2 (S1 := (141, [(0, .ref a), (1, .int (x1 + 8)), (2, .int i13_2)], [], M)) (S2 := (24, [(0, .ref a), (1, .int (x1 + 8)), (2, .int i13_2)], [], M)) rfl rfl rfl (fun c_21 => ?_) (fun c_21 => ?_)
      · have c_21 : x3 ≤ i13_2 := of_decide_eq_true c_21
        refine ml_blk 1 (S' := (142, [(0, .ref a), (1, .int (x1 + 8)), (2, .int i13_2)], [.int 1], M)) rfl ?_
        exact ml_ret rfl (r_z (Or.inr rfl)) (⟨⟨_, rfl, Or.inr rfl⟩, hS⟩)
      · have c_21 : ¬ (x3 ≤ i13_2) := of_decide_eq_false c_21
        refine ml_blk 1 (S' := (25, [(0, .ref a), (1, .int (x1 + 8)), (2, .int i13_2)], [.ref a], M)) rfl ?_
        refine tg_ref (S' := (28, [(0, .ref a), (1, .int (x1 + 8)), (2, .int i13_2)], [.ref b], M)) rfl hS.1 hY0 (by decide) rfl rfl ?_
        refine ml_blk 5 (S' := (33, [(0, .ref a), (1, .int (x1 + 8)), (2, .int i13_2)], [.int ((x1 + 8) + (2 * i13_2)), .ref b], M)) rfl ?_
        refine ml_call (a := [.ref b, .int ((x1 + 8) + (2 * i13_2))]) (rest := []) rfl (okc_t rfl rfl rfl hS.1 hY2 (by decide)) rfl rfl (tq_u2 hS.1 hY2 (by omega)) (fun v5 M6 h7 => ?_)
        obtain ⟨⟨x8, rfl⟩, h7⟩ := h7
        rw [h7]
        show ml _ _ _ (36, [(0, .ref a), (1, .int (x1 + 8)), (2, .int i13_2)], [.int x8], M) _
        refine ml_blk 2 (S' := (38, [(3, .int x8), (0, .ref a), (1, .int (x1 + 8)), (2, .int i13_2)], [.ref a], M)) rfl ?_
        refine tg_ref (S' := (41, [(3, .int x8), (0, .ref a), (1, .int (x1 + 8)), (2, .int i13_2)], [.ref p], M)) rfl hS.1 hY0 (by decide) rfl rfl ?_
        refine ml_blk 1 (S' := (42, [(3, .int x8), (0, .ref a), (1, .int (x1 + 8)), (2, .int i13_2)], [.int x8, .ref p], M)) rfl ?_
        refine ml_call (a := [.ref p, .int x8]) (rest := []) rfl (okc_t rfl rfl rfl hS.1 hY3 (by decide)) rfl rfl (tq_isPlainClass hS.1 hY3 (by omega)) (fun v9 M10 h11 => ?_)
        obtain ⟨⟨x12, rfl, z13⟩, h11⟩ := h11
        rw [h11]
        show ml _ _ _ (45, [(3, .int x8), (0, .ref a), (1, .int (x1 + 8)), (2, .int i13_2)], [.int x12], M) _
        refine ml_if (S1 := (63, [(3, .int x8), (0, .ref a), (1, .int (x1 + 8)), (2, .int i13_2)], [], M)) (S2 := (48, [(3, .int x8), (0, .ref a), (1, .int (x1 + 8)), (2, .int i13_2)], [], M)) rfl rfl rfl (fun c_45 => ?_) (fun c_45 => ?_)
        · have c_45 : ¬ x12 = 0 := of_decide_eq_true c_45
          refine ml_blk 2 (S' := (66, [(0, .ref a), (1, .int (x1 + 8)), (2, .int i13_2), (3, .int x8), (4, .int 0)], [], M)) rfl ?_
          have L_66 : ∀ (n_66 : Nat) (i66_4 : Int32), (2147483648 - i66_4.toInt).toNat ≤ n_66 → ml (mT g) d (mb_62 g).2 (66, [(0, .ref a), (1, .int (x1 + 8)), (2, .int i13_2), (3, .int x8), (4, .int i66_4)], [], M) (qZ g Y M) := by
            intro n_66
            induction n_66 with
            | zero => intro i66_4 hn; exact (loop_zero hn).elim
            | succ n_66 ih_66 =>
              intro i66_4 hn_66
              refine ml_blk 2 (S' := (69, [(0, .ref a), (1, .int (x1 + 8)), (2, .int i13_2), (3, .int x8), (4, .int i66_4)], [.int i13_2, .int i66_4], M)) rfl ?_
              refine ml_if2 (S1 := (135, [(0, .ref a), (1, .int (x1 + 8)), (2, .int i13_2), (3, .int x8), (4, .int i66_4)], [], M)) (S2 := (72, [(0, .ref a), (1, .int (x1 + 8)), (2, .int i13_2), (3, .int x8), (4, .int i66_4)], [], M)) rfl rfl rfl (fun c_69 => ?_) (fun c_69 => ?_)
              · have c_69 : i13_2 ≤ i66_4 := of_decide_eq_true c_69
                refine ml_blk 2 (S' := (13, [(0, .ref a), (1, .int (x1 + 8)), (2, .int (i13_2 + 1))], [], M)) rfl ?_
                exact ih_13 (i13_2 + 1) (loop_inc (Int32.not_le.mp c_21) hn_13) 
              · have c_69 : ¬ (i13_2 ≤ i66_4) := of_decide_eq_false c_69
                refine ml_blk 1 (S' := (73, [(0, .ref a), (1, .int (x1 + 8)), (2, .int i13_2), (3, .int x8), (4, .int i66_4)], [.ref a], M)) rfl ?_
                refine tg_ref (S' := (76, [(0, .ref a), (1, .int (x1 + 8)), (2, .int i13_2), (3, .int x8), (4, .int i66_4)], [.ref b], M)) rfl hS.1 hY0 (by decide) rfl rfl ?_
                refine ml_blk 5 (S' := (82, [(0, .ref a), (1, .int (x1 + 8)), (2, .int i13_2), (3, .int x8), (4, .int i66_4)], [.int ((x1 + 8) + (2 * i66_4)), .ref b], M)) rfl ?_
                refine ml_call (a := [.ref b, .int ((x1 + 8) + (2 * i66_4))]) (rest := []) rfl (okc_t rfl rfl rfl hS.1 hY2 (by decide)) rfl rfl (tq_u2 hS.1 hY2 (by omega)) (fun v14 M15 h16 => ?_)
                obtain ⟨⟨x17, rfl⟩, h16⟩ := h16
                rw [h16]
                show ml _ _ _ (85, [(0, .ref a), (1, .int (x1 + 8)), (2, .int i13_2), (3, .int x8), (4, .int i66_4)], [.int x17], M) _
                refine ml_blk 2 (S' := (88, [(5, .int x17), (0, .ref a), (1, .int (x1 + 8)), (2, .int i13_2), (3, .int x8), (4, .int i66_4)], [.ref a], M)) rfl ?_
                refine tg_ref (S' := (91, [(5, .int x17), (0, .ref a), (1, .int (x1 + 8)), (2, .int i13_2), (3, .int x8), (4, .int i66_4)], [.ref p], M)) rfl hS.1 hY0 (by decide) rfl rfl ?_
                refine ml_blk 1 (S' := (92, [(5, .int x17), (0, .ref a), (1, .int (x1 + 8)), (2, .int i13_2), (3, .int x8), (4, .int i66_4)], [.ref a, .ref p], M)) rfl ?_
                refine tg_ref (S' := (95, [(5, .int x17), (0, .ref a), (1, .int (x1 + 8)), (2, .int i13_2), (3, .int x8), (4, .int i66_4)], [.ref p, .ref p], M)) rfl hS.1 hY0 (by decide) rfl rfl ?_
                refine ml_blk 1 (S' := (97, [(5, .int x17), (0, .ref a), (1, .int (x1 + 8)), (2, .int i13_2), (3, .int x8), (4, .int i66_4)], [.int x17, .ref p, .ref p], M)) rfl ?_
                refine ml_call (a := [.ref p, .int x17]) (rest := [.ref p]) rfl (okc_t rfl rfl rfl hS.1 hY3 (by decide)) rfl rfl (tq_firstIndex hS.1 hY3 (by omega)) (fun v18 M19 h20 => ?_)
                obtain ⟨⟨x21, rfl⟩, h20⟩ := h20
                rw [h20]
                show ml _ _ _ (100, [(5, .int x17), (0, .ref a), (1, .int (x1 + 8)), (2, .int i13_2), (3, .int x8), (4, .int i66_4)], [.int x21, .ref p], M) _
                refine ml_blk 1 (S' := (101, [(5, .int x17), (0, .ref a), (1, .int (x1 + 8)), (2, .int i13_2), (3, .int x8), (4, .int i66_4)], [.ref a, .int x21, .ref p], M)) rfl ?_
                refine tg_ref (S' := (104, [(5, .int x17), (0, .ref a), (1, .int (x1 + 8)), (2, .int i13_2), (3, .int x8), (4, .int i66_4)], [.ref p, .int x21, .ref p], M)) rfl hS.1 hY0 (by decide) rfl rfl ?_
                refine ml_blk 1 (S' := (105, [(5, .int x17), (0, .ref a), (1, .int (x1 + 8)), (2, .int i13_2), (3, .int x8), (4, .int i66_4)], [.int x8, .ref p, .int x21, .ref p], M)) rfl ?_
                refine ml_call (a := [.ref p, .int x8]) (rest := [.int x21, .ref p]) rfl (okc_t rfl rfl rfl hS.1 hY3 (by decide)) rfl rfl (tq_firstIndex hS.1 hY3 (by omega)) (fun v22 M23 h24 => ?_)
                obtain ⟨⟨x25, rfl⟩, h24⟩ := h24
                rw [h24]
                show ml _ _ _ (108, [(5, .int x17), (0, .ref a), (1, .int (x1 + 8)), (2, .int i13_2), (3, .int x8), (4, .int i66_4)], [.int x25, .int x21, .ref p], M) _
                refine ml_call (a := [.ref p, .int x21, .int x25]) (rest := []) rfl (okc_t rfl rfl rfl hS.1 hY3 (by decide)) rfl rfl (tq_sameText hS.1 hY3 (by omega)) (fun v26 M27 h28 => ?_)
                obtain ⟨⟨x29, rfl, z30⟩, h28⟩ := h28
                rw [h28]
                show ml _ _ _ (111, [(5, .int x17), (0, .ref a), (1, .int (x1 + 8)), (2, .int i13_2), (3, .int x8), (4, .int i66_4)], [.int x29], M) _
                refine ml_if (S1 := (129, [(5, .int x17), (0, .ref a), (1, .int (x1 + 8)), (2, .int i13_2), (3, .int x8), (4, .int i66_4)], [], M)) (S2 := (114, [(5, .int x17), (0, .ref a), (1, .int (x1 + 8)), (2, .int i13_2), (3, .int x8), (4, .int i66_4)], [], M)) rfl rfl rfl (fun c_111 => ?_) (fun c_111 => ?_)
                · have c_111 : x29 = 0 := of_decide_eq_true c_111
                  refine ml_blk 2 (S' := (66, [(0, .ref a), (1, .int (x1 + 8)), (2, .int i13_2), (3, .int x8), (4, .int (i66_4 + 1))], [], M)) rfl ?_
                  exact ih_66 (i66_4 + 1) (loop_inc (Int32.not_le.mp c_69) hn_66) 
                · have c_111 : ¬ (x29 = 0) := of_decide_eq_false c_111
                  refine ml_blk 1 (S' := (115, [(5, .int x17), (0, .ref a), (1, .int (x1 + 8)), (2, .int i13_2), (3, .int x8), (4, .int i66_4)], [.ref a], M)) rfl ?_
                  refine tg_ref (S' := (118, [(5, .int x17), (0, .ref a), (1, .int (x1 + 8)), (2, .int i13_2), (3, .int x8), (4, .int i66_4)], [.ref vd], M)) rfl hS.1 hY0 (by decide) rfl rfl ?_
                  refine ml_blk 6 (S' := (125, [(5, .int x17), (0, .ref a), (1, .int (x1 + 8)), (2, .int i13_2), (3, .int x8), (4, .int i66_4)], [.int ((x1 + 8) + (2 * i13_2)), .int 18, .ref vd], M)) rfl ?_
                  refine ml_call (a := [.ref vd, .int 18, .int ((x1 + 8) + (2 * i13_2))]) (rest := []) rfl (okc_t rfl rfl rfl hS.1 hY4 (by decide)) rfl rfl (tw_Ve_wrong hS.1 hY4 (by omega)) (fun v31 M32 h33 => ?_)
                  obtain ⟨⟨x34, rfl, z35⟩, h33⟩ := h33
                  have hS36 := hS.tr h33
                  show ml _ _ _ (128, [(5, .int x17), (0, .ref a), (1, .int (x1 + 8)), (2, .int i13_2), (3, .int x8), (4, .int i66_4)], [.int x34], M32) _
                  exact ml_ret rfl (r_z (z35)) (⟨⟨_, rfl, z35⟩, hS36⟩)
          exact L_66 _ 0 (Nat.le_refl _) 
        · have c_45 : ¬ (¬ x12 = 0) := of_decide_eq_false c_45
          refine ml_blk 1 (S' := (49, [(3, .int x8), (0, .ref a), (1, .int (x1 + 8)), (2, .int i13_2)], [.ref a], M)) rfl ?_
          refine tg_ref (S' := (52, [(3, .int x8), (0, .ref a), (1, .int (x1 + 8)), (2, .int i13_2)], [.ref vd], M)) rfl hS.1 hY0 (by decide) rfl rfl ?_
          refine ml_blk 6 (S' := (59, [(3, .int x8), (0, .ref a), (1, .int (x1 + 8)), (2, .int i13_2)], [.int ((x1 + 8) + (2 * i13_2)), .int 18, .ref vd], M)) rfl ?_
          refine ml_call (a := [.ref vd, .int 18, .int ((x1 + 8) + (2 * i13_2))]) (rest := []) rfl (okc_t rfl rfl rfl hS.1 hY4 (by decide)) rfl rfl (tw_Ve_wrong hS.1 hY4 (by omega)) (fun v37 M38 h39 => ?_)
          obtain ⟨⟨x40, rfl, z41⟩, h39⟩ := h39
          have hS42 := hS.tr h39
          show ml _ _ _ (62, [(3, .int x8), (0, .ref a), (1, .int (x1 + 8)), (2, .int i13_2)], [.int x40], M38) _
          exact ml_ret rfl (r_z (z41)) (⟨⟨_, rfl, z41⟩, hS42⟩)
  exact L_13 _ 0 (Nat.le_refl _) 
set_option maxHeartbeats 2000000 in
theorem tw_Cl_fieldHolds {g : xe_G} {M : mi_H} {Y : yT} {a c b p vd ac da n me : Nat} {pp : List Nat} {x2 : Int32}  (hW : WF g Y M) (hY0 : Y.1 a = some (2, [c, b, p, vd, ac])) (hY1 : Y.1 c = some (3, [b, da, n])) (hY2 : Y.1 b = some (1, [da, n])) (hY3 : Y.1 p = some (7, pp)) (hY4 : Y.1 vd = some (10, [])) (hY5 : Y.1 ac = some (0, [c, b, p, vd])) (hY6 : Y.1 me = some (6, [da, n])) {d : Nat} (hd : 4 ≤ d) : mt (mT g) d 56 [.ref a, .ref me, .int x2] M (qZ g Y M) := by
  obtain ⟨d, rfl⟩ : ∃ e, d = e + 1 := ⟨d - 1, by omega⟩
  have hS := st.rf hW
  refine mt_in (b := mb_56 g) rfl rfl ?_
  show ml (mT g) d (mb_56 g).2 (0, [(0, .ref a), (1, .ref me), (2, .int x2)], [], M) _
  refine ml_blk 2 (S' := (2, [(0, .ref a), (1, .ref me), (2, .int x2)], [.ref me, .ref a], M)) rfl ?_
  refine tg_int rfl hS.1 hY6 (by decide) rfl (fun x1 g2 => ?_)
  show ml _ _ _ (5, [(0, .ref a), (1, .ref me), (2, .int x2)], [.int x1, .ref a], M) _
  refine ml_call (a := [.ref a, .int x1]) (rest := []) rfl (okc_t rfl rfl rfl hS.1 hY0 (by decide)) rfl rfl (tw_Cl_fieldFlagsHold hS.1 hY0 hY1 hY2 hY3 hY4 hY5 (by omega)) (fun v3 M4 h5 => ?_)
  obtain ⟨⟨x6, rfl, z7⟩, h5⟩ := h5
  rw [h5]
  show ml _ _ _ (8, [(0, .ref a), (1, .ref me), (2, .int x2)], [.int x6], M) _
  refine ml_if (S1 := (25, [(0, .ref a), (1, .ref me), (2, .int x2)], [], M)) (S2 := (11, [(0, .ref a), (1, .ref me), (2, .int x2)], [], M)) rfl rfl rfl (fun c_8 => ?_) (fun c_8 => ?_)
  · have c_8 : ¬ x6 = 0 := of_decide_eq_true c_8
    refine ml_blk 1 (S' := (26, [(0, .ref a), (1, .ref me), (2, .int x2)], [.ref a], M)) rfl ?_
    refine tg_ref (S' := (29, [(0, .ref a), (1, .ref me), (2, .int x2)], [.ref p], M)) rfl hS.1 hY0 (by decide) rfl rfl ?_
    refine ml_blk 1 (S' := (30, [(0, .ref a), (1, .ref me), (2, .int x2)], [.ref me, .ref p], M)) rfl ?_
    refine tg_int rfl hS.1 hY6 (by decide) rfl (fun x8 g9 => ?_)
    show ml _ _ _ (33, [(0, .ref a), (1, .ref me), (2, .int x2)], [.int x8, .ref p], M) _
    refine ml_call (a := [.ref p, .int x8]) (rest := []) rfl (okc_t rfl rfl rfl hS.1 hY3 (by decide)) rfl rfl (tq_isUnqualifiedName hS.1 hY3 (by omega)) (fun v10 M11 h12 => ?_)
    obtain ⟨⟨x13, rfl, z14⟩, h12⟩ := h12
    rw [h12]
    show ml _ _ _ (36, [(0, .ref a), (1, .ref me), (2, .int x2)], [.int x13], M) _
    refine ml_if (S1 := (55, [(0, .ref a), (1, .ref me), (2, .int x2)], [], M)) (S2 := (39, [(0, .ref a), (1, .ref me), (2, .int x2)], [], M)) rfl rfl rfl (fun c_36 => ?_) (fun c_36 => ?_)
    · have c_36 : ¬ x13 = 0 := of_decide_eq_true c_36
      refine ml_blk 1 (S' := (56, [(0, .ref a), (1, .ref me), (2, .int x2)], [.ref a], M)) rfl ?_
      refine tg_ref (S' := (59, [(0, .ref a), (1, .ref me), (2, .int x2)], [.ref p], M)) rfl hS.1 hY0 (by decide) rfl rfl ?_
      refine ml_blk 1 (S' := (60, [(0, .ref a), (1, .ref me), (2, .int x2)], [.ref me, .ref p], M)) rfl ?_
      refine tg_int rfl hS.1 hY6 (by decide) rfl (fun x15 g16 => ?_)
      show ml _ _ _ (63, [(0, .ref a), (1, .ref me), (2, .int x2)], [.int x15, .ref p], M) _
      refine ml_call (a := [.ref p, .int x15]) (rest := []) rfl (okc_t rfl rfl rfl hS.1 hY3 (by decide)) rfl rfl (tq_isFieldDescriptor hS.1 hY3 (by omega)) (fun v17 M18 h19 => ?_)
      obtain ⟨⟨x20, rfl, z21⟩, h19⟩ := h19
      rw [h19]
      show ml _ _ _ (66, [(0, .ref a), (1, .ref me), (2, .int x2)], [.int x20], M) _
      refine ml_if (S1 := (85, [(0, .ref a), (1, .ref me), (2, .int x2)], [], M)) (S2 := (69, [(0, .ref a), (1, .ref me), (2, .int x2)], [], M)) rfl rfl rfl (fun c_66 => ?_) (fun c_66 => ?_)
      · have c_66 : ¬ x20 = 0 := of_decide_eq_true c_66
        refine ml_blk 1 (S' := (86, [(0, .ref a), (1, .ref me), (2, .int x2)], [.ref a], M)) rfl ?_
        refine tg_ref (S' := (89, [(0, .ref a), (1, .ref me), (2, .int x2)], [.ref p], M)) rfl hS.1 hY0 (by decide) rfl rfl ?_
        refine ml_blk 1 (S' := (90, [(0, .ref a), (1, .ref me), (2, .int x2)], [.ref a, .ref p], M)) rfl ?_
        refine tg_ref (S' := (93, [(0, .ref a), (1, .ref me), (2, .int x2)], [.ref c, .ref p], M)) rfl hS.1 hY0 (by decide) rfl rfl ?_
        refine tg_vo rfl hS.1 hY1 (by decide) rfl (fun b22 g24 h23 => ?_)
        obtain ⟨k25, h23⟩ := h23
        show ml _ _ _ (96, [(0, .ref a), (1, .ref me), (2, .int x2)], [.ref b22, .ref p], M) _
        refine ml_blk 2 (S' := (98, [(0, .ref a), (1, .ref me), (2, .int x2)], [.ref me, .int x2, .ref b22, .ref p], M)) rfl ?_
        refine ml_get (S' := (101, [(0, .ref a), (1, .ref me), (2, .int x2)], [.int x8, .int x2, .ref b22, .ref p], M)) rfl g9 rfl ?_
        refine ml_blk 1 (S' := (102, [(0, .ref a), (1, .ref me), (2, .int x2)], [.ref me, .int x8, .int x2, .ref b22, .ref p], M)) rfl ?_
        refine ml_get (S' := (105, [(0, .ref a), (1, .ref me), (2, .int x2)], [.int x15, .int x8, .int x2, .ref b22, .ref p], M)) rfl g16 rfl ?_
        refine ml_call (a := [.ref p, .ref b22, .int x2, .int x8, .int x15]) (rest := []) rfl (okc_t rfl rfl rfl hS.1 hY3 (by decide)) rfl rfl (tw_Po_sameMember hS.1 hY3 h23 (by omega)) (fun v26 M27 h28 => ?_)
        obtain ⟨⟨x29, rfl⟩, h28⟩ := h28
        rw [h28]
        show ml _ _ _ (108, [(0, .ref a), (1, .ref me), (2, .int x2)], [.int x29], M) _
        refine ml_if (S1 := (125, [(0, .ref a), (1, .ref me), (2, .int x2)], [], M)) (S2 := (111, [(0, .ref a), (1, .ref me), (2, .int x2)], [], M)) rfl rfl rfl (fun c_108 => ?_) (fun c_108 => ?_)
        · have c_108 : x29 < 0 := of_decide_eq_true c_108
          refine ml_blk 1 (S' := (126, [(0, .ref a), (1, .ref me), (2, .int x2)], [.int 1], M)) rfl ?_
          exact ml_ret rfl (r_z (Or.inr rfl)) (⟨⟨_, rfl, Or.inr rfl⟩, hS⟩)
        · have c_108 : ¬ (x29 < 0) := of_decide_eq_false c_108
          refine ml_blk 1 (S' := (112, [(0, .ref a), (1, .ref me), (2, .int x2)], [.ref a], M)) rfl ?_
          refine tg_ref (S' := (115, [(0, .ref a), (1, .ref me), (2, .int x2)], [.ref vd], M)) rfl hS.1 hY0 (by decide) rfl rfl ?_
          refine ml_blk 2 (S' := (118, [(0, .ref a), (1, .ref me), (2, .int x2)], [.ref me, .int 22, .ref vd], M)) rfl ?_
          refine tg_int rfl hS.1 hY6 (by decide) rfl (fun x30 g31 => ?_)
          show ml _ _ _ (121, [(0, .ref a), (1, .ref me), (2, .int x2)], [.int x30, .int 22, .ref vd], M) _
          refine ml_call (a := [.ref vd, .int 22, .int x30]) (rest := []) rfl (okc_t rfl rfl rfl hS.1 hY4 (by decide)) rfl rfl (tw_Ve_wrong hS.1 hY4 (by omega)) (fun v32 M33 h34 => ?_)
          obtain ⟨⟨x35, rfl, z36⟩, h34⟩ := h34
          have hS37 := hS.tr h34
          show ml _ _ _ (124, [(0, .ref a), (1, .ref me), (2, .int x2)], [.int x35], M33) _
          exact ml_ret rfl (r_z (z36)) (⟨⟨_, rfl, z36⟩, hS37⟩)
      · have c_66 : ¬ (¬ x20 = 0) := of_decide_eq_false c_66
        refine ml_blk 1 (S' := (70, [(0, .ref a), (1, .ref me), (2, .int x2)], [.ref a], M)) rfl ?_
        refine tg_ref (S' := (73, [(0, .ref a), (1, .ref me), (2, .int x2)], [.ref vd], M)) rfl hS.1 hY0 (by decide) rfl rfl ?_
        refine ml_blk 2 (S' := (76, [(0, .ref a), (1, .ref me), (2, .int x2)], [.ref me, .int 21, .ref vd], M)) rfl ?_
        refine tg_int rfl hS.1 hY6 (by decide) rfl (fun x38 g39 => ?_)
        show ml _ _ _ (79, [(0, .ref a), (1, .ref me), (2, .int x2)], [.int x38, .int 21, .ref vd], M) _
        refine ml_blk 2 (S' := (81, [(0, .ref a), (1, .ref me), (2, .int x2)], [.int (x38 + 4), .int 21, .ref vd], M)) rfl ?_
        refine ml_call (a := [.ref vd, .int 21, .int (x38 + 4)]) (rest := []) rfl (okc_t rfl rfl rfl hS.1 hY4 (by decide)) rfl rfl (tw_Ve_wrong hS.1 hY4 (by omega)) (fun v40 M41 h42 => ?_)
        obtain ⟨⟨x43, rfl, z44⟩, h42⟩ := h42
        have hS45 := hS.tr h42
        show ml _ _ _ (84, [(0, .ref a), (1, .ref me), (2, .int x2)], [.int x43], M41) _
        exact ml_ret rfl (r_z (z44)) (⟨⟨_, rfl, z44⟩, hS45⟩)
    · have c_36 : ¬ (¬ x13 = 0) := of_decide_eq_false c_36
      refine ml_blk 1 (S' := (40, [(0, .ref a), (1, .ref me), (2, .int x2)], [.ref a], M)) rfl ?_
      refine tg_ref (S' := (43, [(0, .ref a), (1, .ref me), (2, .int x2)], [.ref vd], M)) rfl hS.1 hY0 (by decide) rfl rfl ?_
      refine ml_blk 2 (S' := (46, [(0, .ref a), (1, .ref me), (2, .int x2)], [.ref me, .int 20, .ref vd], M)) rfl ?_
      refine tg_int rfl hS.1 hY6 (by decide) rfl (fun x46 g47 => ?_)
      show ml _ _ _ (49, [(0, .ref a), (1, .ref me), (2, .int x2)], [.int x46, .int 20, .ref vd], M) _
      refine ml_blk 2 (S' := (51, [(0, .ref a), (1, .ref me), (2, .int x2)], [.int (x46 + 2), .int 20, .ref vd], M)) rfl ?_
      refine ml_call (a := [.ref vd, .int 20, .int (x46 + 2)]) (rest := []) rfl (okc_t rfl rfl rfl hS.1 hY4 (by decide)) rfl rfl (tw_Ve_wrong hS.1 hY4 (by omega)) (fun v48 M49 h50 => ?_)
      obtain ⟨⟨x51, rfl, z52⟩, h50⟩ := h50
      have hS53 := hS.tr h50
      show ml _ _ _ (54, [(0, .ref a), (1, .ref me), (2, .int x2)], [.int x51], M49) _
      exact ml_ret rfl (r_z (z52)) (⟨⟨_, rfl, z52⟩, hS53⟩)
  · have c_8 : ¬ (¬ x6 = 0) := of_decide_eq_false c_8
    refine ml_blk 1 (S' := (12, [(0, .ref a), (1, .ref me), (2, .int x2)], [.ref a], M)) rfl ?_
    refine tg_ref (S' := (15, [(0, .ref a), (1, .ref me), (2, .int x2)], [.ref vd], M)) rfl hS.1 hY0 (by decide) rfl rfl ?_
    refine ml_blk 2 (S' := (18, [(0, .ref a), (1, .ref me), (2, .int x2)], [.ref me, .int 19, .ref vd], M)) rfl ?_
    refine tg_int rfl hS.1 hY6 (by decide) rfl (fun x54 g55 => ?_)
    show ml _ _ _ (21, [(0, .ref a), (1, .ref me), (2, .int x2)], [.int x54, .int 19, .ref vd], M) _
    refine ml_call (a := [.ref vd, .int 19, .int x54]) (rest := []) rfl (okc_t rfl rfl rfl hS.1 hY4 (by decide)) rfl rfl (tw_Ve_wrong hS.1 hY4 (by omega)) (fun v56 M57 h58 => ?_)
    obtain ⟨⟨x59, rfl, z60⟩, h58⟩ := h58
    have hS61 := hS.tr h58
    show ml _ _ _ (24, [(0, .ref a), (1, .ref me), (2, .int x2)], [.int x59], M57) _
    exact ml_ret rfl (r_z (z60)) (⟨⟨_, rfl, z60⟩, hS61⟩)
set_option maxHeartbeats 2000000 in
theorem tw_Cl_methodHolds {g : xe_G} {M : mi_H} {Y : yT} {a c b p vd ac da n me : Nat} {pp : List Nat} {x2 : Int32}  (hW : WF g Y M) (hY0 : Y.1 a = some (2, [c, b, p, vd, ac])) (hY1 : Y.1 c = some (3, [b, da, n])) (hY2 : Y.1 b = some (1, [da, n])) (hY3 : Y.1 p = some (7, pp)) (hY4 : Y.1 vd = some (10, [])) (hY5 : Y.1 ac = some (0, [c, b, p, vd])) (hY6 : Y.1 me = some (6, [da, n])) {d : Nat} (hd : 5 ≤ d) : mt (mT g) d 65 [.ref a, .ref me, .int x2] M (qZ g Y M) := by
  obtain ⟨d, rfl⟩ : ∃ e, d = e + 1 := ⟨d - 1, by omega⟩
  have hS := st.rf hW
  refine mt_in (b := mb_65 g) rfl rfl ?_
  show ml (mT g) d (mb_65 g).2 (0, [(0, .ref a), (1, .ref me), (2, .int x2)], [], M) _
  refine ml_blk 2 (S' := (2, [(0, .ref a), (1, .ref me), (2, .int x2)], [.ref me, .ref a], M)) rfl ?_
  refine tg_int rfl hS.1 hY6 (by decide) rfl (fun x1 g2 => ?_)
  show ml _ _ _ (5, [(0, .ref a), (1, .ref me), (2, .int x2)], [.int x1, .ref a], M) _
  refine ml_call (a := [.ref a, .int x1]) (rest := []) rfl (okc_t rfl rfl rfl hS.1 hY0 (by decide)) rfl rfl (tw_Cl_methodNameHolds hS.1 hY0 hY1 hY2 hY3 hY4 hY5 (by omega)) (fun v3 M4 h5 => ?_)
  obtain ⟨⟨x6, rfl, z7⟩, h5⟩ := h5
  rw [h5]
  show ml _ _ _ (8, [(0, .ref a), (1, .ref me), (2, .int x2)], [.int x6], M) _
  refine ml_if (S1 := (27, [(0, .ref a), (1, .ref me), (2, .int x2)], [], M)) (S2 := (11, [(0, .ref a), (1, .ref me), (2, .int x2)], [], M)) rfl rfl rfl (fun c_8 => ?_) (fun c_8 => ?_)
  · have c_8 : ¬ x6 = 0 := of_decide_eq_true c_8
    refine ml_blk 2 (S' := (29, [(0, .ref a), (1, .ref me), (2, .int x2)], [.ref me, .ref a], M)) rfl ?_
    refine ml_call (a := [.ref a, .ref me]) (rest := []) rfl (okc_t rfl rfl rfl hS.1 hY0 (by decide)) rfl rfl (tw_Cl_methodFlagsHold hS.1 hY0 hY1 hY2 hY3 hY4 hY5 hY6 (by omega)) (fun v8 M9 h10 => ?_)
    obtain ⟨⟨x11, rfl, z12⟩, h10⟩ := h10
    rw [h10]
    show ml _ _ _ (32, [(0, .ref a), (1, .ref me), (2, .int x2)], [.int x11], M) _
    refine ml_if (S1 := (49, [(0, .ref a), (1, .ref me), (2, .int x2)], [], M)) (S2 := (35, [(0, .ref a), (1, .ref me), (2, .int x2)], [], M)) rfl rfl rfl (fun c_32 => ?_) (fun c_32 => ?_)
    · have c_32 : ¬ x11 = 0 := of_decide_eq_true c_32
      refine ml_blk 2 (S' := (51, [(0, .ref a), (1, .ref me), (2, .int x2)], [.ref a, .ref me], M)) rfl ?_
      refine tg_ref (S' := (54, [(0, .ref a), (1, .ref me), (2, .int x2)], [.ref p, .ref me], M)) rfl hS.1 hY0 (by decide) rfl rfl ?_
      refine ml_blk 1 (S' := (55, [(0, .ref a), (1, .ref me), (2, .int x2)], [.ref me, .ref p, .ref me], M)) rfl ?_
      refine tg_int rfl hS.1 hY6 (by decide) rfl (fun x13 g14 => ?_)
      show ml _ _ _ (58, [(0, .ref a), (1, .ref me), (2, .int x2)], [.int x13, .ref p, .ref me], M) _
      refine ml_call (a := [.ref p, .int x13]) (rest := [.ref me]) rfl (okc_t rfl rfl rfl hS.1 hY3 (by decide)) rfl rfl (tq_argumentPlaces hS.1 hY3 (by omega)) (fun v15 M16 h17 => ?_)
      obtain ⟨⟨x18, rfl⟩, h17⟩ := h17
      rw [h17]
      show ml _ _ _ (61, [(0, .ref a), (1, .ref me), (2, .int x2)], [.int x18, .ref me], M) _
      refine ml_blk 2 (S' := (64, [(0, .ref a), (1, .ref me), (2, .int x2)], [.int 8, .ref me, .int x18, .ref me], M)) rfl ?_
      refine ml_call (a := [.ref me, .int 8]) (rest := [.int x18, .ref me]) rfl (okc_t rfl rfl rfl hS.1 hY6 (by decide)) rfl rfl (tw_Me_has hS.1 hY6 (by omega)) (fun v19 M20 h21 => ?_)
      obtain ⟨⟨x22, rfl, z23⟩, h21⟩ := h21
      rw [h21]
      show ml _ _ _ (67, [(0, .ref a), (1, .ref me), (2, .int x2)], [.int x22, .int x18, .ref me], M) _
      have J_75 : ml (mT g) d (mb_65 g).2 (75, [(0, .ref a), (1, .ref me), (2, .int x2)], [.int x22, .int x18, .ref me], M) (qZ g Y M) := by
        refine ml_blk 1 (S' := (76, [(0, .ref a), (1, .ref me), (2, .int x2)], [.int (x18 + x22), .ref me], M)) rfl ?_
        refine tp_put rfl hS hY6 (by decide) rfl (⟨_, rfl⟩) rfl rfl (fun M24 hS25 f26 => ?_)
        show ml _ _ _ (79, [(0, .ref a), (1, .ref me), (2, .int x2)], [], M24) _
        refine ml_blk 2 (S' := (81, [(0, .ref a), (1, .ref me), (2, .int x2)], [.ref me, .ref a], M24)) rfl ?_
        refine ml_call (a := [.ref a, .ref me]) (rest := []) rfl (okc_t rfl rfl rfl hS25.1 hY0 (by decide)) rfl rfl (tw_Cl_methodDescriptorHolds hS25.1 hY0 hY1 hY2 hY3 hY4 hY5 hY6 (by omega)) (fun v27 M28 h29 => ?_)
        obtain ⟨⟨x30, rfl, z31⟩, h29⟩ := h29
        rw [h29]
        show ml _ _ _ (84, [(0, .ref a), (1, .ref me), (2, .int x2)], [.int x30], M24) _
        refine ml_if (S1 := (103, [(0, .ref a), (1, .ref me), (2, .int x2)], [], M24)) (S2 := (87, [(0, .ref a), (1, .ref me), (2, .int x2)], [], M24)) rfl rfl rfl (fun c_84 => ?_) (fun c_84 => ?_)
        · have c_84 : ¬ x30 = 0 := of_decide_eq_true c_84
          refine ml_blk 1 (S' := (104, [(0, .ref a), (1, .ref me), (2, .int x2)], [.ref a], M24)) rfl ?_
          refine tg_ref (S' := (107, [(0, .ref a), (1, .ref me), (2, .int x2)], [.ref p], M24)) rfl hS25.1 hY0 (by decide) rfl rfl ?_
          refine ml_blk 1 (S' := (108, [(0, .ref a), (1, .ref me), (2, .int x2)], [.ref a, .ref p], M24)) rfl ?_
          refine tg_ref (S' := (111, [(0, .ref a), (1, .ref me), (2, .int x2)], [.ref c, .ref p], M24)) rfl hS25.1 hY0 (by decide) rfl rfl ?_
          refine tg_vo rfl hS25.1 hY1 (by decide) rfl (fun b32 g34 h33 => ?_)
          obtain ⟨k35, h33⟩ := h33
          show ml _ _ _ (114, [(0, .ref a), (1, .ref me), (2, .int x2)], [.ref b32, .ref p], M24) _
          refine ml_blk 2 (S' := (116, [(0, .ref a), (1, .ref me), (2, .int x2)], [.ref me, .int x2, .ref b32, .ref p], M24)) rfl ?_
          refine tg_int rfl hS25.1 hY6 (by decide) rfl (fun x36 g37 => ?_)
          show ml _ _ _ (119, [(0, .ref a), (1, .ref me), (2, .int x2)], [.int x36, .int x2, .ref b32, .ref p], M24) _
          refine ml_blk 1 (S' := (120, [(0, .ref a), (1, .ref me), (2, .int x2)], [.ref me, .int x36, .int x2, .ref b32, .ref p], M24)) rfl ?_
          refine tg_int rfl hS25.1 hY6 (by decide) rfl (fun x38 g39 => ?_)
          show ml _ _ _ (123, [(0, .ref a), (1, .ref me), (2, .int x2)], [.int x38, .int x36, .int x2, .ref b32, .ref p], M24) _
          refine ml_call (a := [.ref p, .ref b32, .int x2, .int x36, .int x38]) (rest := []) rfl (okc_t rfl rfl rfl hS25.1 hY3 (by decide)) rfl rfl (tw_Po_sameMember hS25.1 hY3 h33 (by omega)) (fun v40 M41 h42 => ?_)
          obtain ⟨⟨x43, rfl⟩, h42⟩ := h42
          rw [h42]
          show ml _ _ _ (126, [(0, .ref a), (1, .ref me), (2, .int x2)], [.int x43], M24) _
          refine ml_if (S1 := (143, [(0, .ref a), (1, .ref me), (2, .int x2)], [], M24)) (S2 := (129, [(0, .ref a), (1, .ref me), (2, .int x2)], [], M24)) rfl rfl rfl (fun c_126 => ?_) (fun c_126 => ?_)
          · have c_126 : x43 < 0 := of_decide_eq_true c_126
            refine ml_blk 1 (S' := (144, [(0, .ref a), (1, .ref me), (2, .int x2)], [.int 1], M24)) rfl ?_
            exact ml_ret rfl (r_z (Or.inr rfl)) (⟨⟨_, rfl, Or.inr rfl⟩, hS25⟩)
          · have c_126 : ¬ (x43 < 0) := of_decide_eq_false c_126
            refine ml_blk 1 (S' := (130, [(0, .ref a), (1, .ref me), (2, .int x2)], [.ref a], M24)) rfl ?_
            refine tg_ref (S' := (133, [(0, .ref a), (1, .ref me), (2, .int x2)], [.ref vd], M24)) rfl hS25.1 hY0 (by decide) rfl rfl ?_
            refine ml_blk 2 (S' := (136, [(0, .ref a), (1, .ref me), (2, .int x2)], [.ref me, .int 26, .ref vd], M24)) rfl ?_
            refine tg_int rfl hS25.1 hY6 (by decide) rfl (fun x44 g45 => ?_)
            show ml _ _ _ (139, [(0, .ref a), (1, .ref me), (2, .int x2)], [.int x44, .int 26, .ref vd], M24) _
            refine ml_call (a := [.ref vd, .int 26, .int x44]) (rest := []) rfl (okc_t rfl rfl rfl hS25.1 hY4 (by decide)) rfl rfl (tw_Ve_wrong hS25.1 hY4 (by omega)) (fun v46 M47 h48 => ?_)
            obtain ⟨⟨x49, rfl, z50⟩, h48⟩ := h48
            have hS51 := hS25.tr h48
            show ml _ _ _ (142, [(0, .ref a), (1, .ref me), (2, .int x2)], [.int x49], M47) _
            exact ml_ret rfl (r_z (z50)) (⟨⟨_, rfl, z50⟩, hS51⟩)
        · have c_84 : ¬ (¬ x30 = 0) := of_decide_eq_false c_84
          refine ml_blk 1 (S' := (88, [(0, .ref a), (1, .ref me), (2, .int x2)], [.ref a], M24)) rfl ?_
          refine tg_ref (S' := (91, [(0, .ref a), (1, .ref me), (2, .int x2)], [.ref vd], M24)) rfl hS25.1 hY0 (by decide) rfl rfl ?_
          refine ml_blk 2 (S' := (94, [(0, .ref a), (1, .ref me), (2, .int x2)], [.ref me, .int 25, .ref vd], M24)) rfl ?_
          refine tg_int rfl hS25.1 hY6 (by decide) rfl (fun x52 g53 => ?_)
          show ml _ _ _ (97, [(0, .ref a), (1, .ref me), (2, .int x2)], [.int x52, .int 25, .ref vd], M24) _
          refine ml_blk 2 (S' := (99, [(0, .ref a), (1, .ref me), (2, .int x2)], [.int (x52 + 4), .int 25, .ref vd], M24)) rfl ?_
          refine ml_call (a := [.ref vd, .int 25, .int (x52 + 4)]) (rest := []) rfl (okc_t rfl rfl rfl hS25.1 hY4 (by decide)) rfl rfl (tw_Ve_wrong hS25.1 hY4 (by omega)) (fun v54 M55 h56 => ?_)
          obtain ⟨⟨x57, rfl, z58⟩, h56⟩ := h56
          have hS59 := hS25.tr h56
          show ml _ _ _ (102, [(0, .ref a), (1, .ref me), (2, .int x2)], [.int x57], M55) _
          exact ml_ret rfl (r_z (z58)) (⟨⟨_, rfl, z58⟩, hS59⟩)
      refine ml_if (S1 := (74, [(0, .ref a), (1, .ref me), (2, .int x2)], [.int x18, .ref me], M)) (S2 := (70, [(0, .ref a), (1, .ref me), (2, .int x2)], [.int x18, .ref me], M)) rfl rfl rfl (fun c_67 => ?_) (fun c_67 => ?_)
      · have c_67 : x22 = 0 := of_decide_eq_true c_67
        refine ml_blk 1 (S' := (75, [(0, .ref a), (1, .ref me), (2, .int x2)], [.int 1, .int x18, .ref me], M)) rfl ?_
        exact J_75 
      · have c_67 : ¬ (x22 = 0) := of_decide_eq_false c_67
        refine ml_blk 2 (S' := (75, [(0, .ref a), (1, .ref me), (2, .int x2)], [.int 0, .int x18, .ref me], M)) rfl ?_
        exact J_75 
    · have c_32 : ¬ (¬ x11 = 0) := of_decide_eq_false c_32
      refine ml_blk 1 (S' := (36, [(0, .ref a), (1, .ref me), (2, .int x2)], [.ref a], M)) rfl ?_
      refine tg_ref (S' := (39, [(0, .ref a), (1, .ref me), (2, .int x2)], [.ref vd], M)) rfl hS.1 hY0 (by decide) rfl rfl ?_
      refine ml_blk 2 (S' := (42, [(0, .ref a), (1, .ref me), (2, .int x2)], [.ref me, .int 23, .ref vd], M)) rfl ?_
      refine tg_int rfl hS.1 hY6 (by decide) rfl (fun x60 g61 => ?_)
      show ml _ _ _ (45, [(0, .ref a), (1, .ref me), (2, .int x2)], [.int x60, .int 23, .ref vd], M) _
      refine ml_call (a := [.ref vd, .int 23, .int x60]) (rest := []) rfl (okc_t rfl rfl rfl hS.1 hY4 (by decide)) rfl rfl (tw_Ve_wrong hS.1 hY4 (by omega)) (fun v62 M63 h64 => ?_)
      obtain ⟨⟨x65, rfl, z66⟩, h64⟩ := h64
      have hS67 := hS.tr h64
      show ml _ _ _ (48, [(0, .ref a), (1, .ref me), (2, .int x2)], [.int x65], M63) _
      exact ml_ret rfl (r_z (z66)) (⟨⟨_, rfl, z66⟩, hS67⟩)
  · have c_8 : ¬ (¬ x6 = 0) := of_decide_eq_false c_8
    refine ml_blk 1 (S' := (12, [(0, .ref a), (1, .ref me), (2, .int x2)], [.ref a], M)) rfl ?_
    refine tg_ref (S' := (15, [(0, .ref a), (1, .ref me), (2, .int x2)], [.ref vd], M)) rfl hS.1 hY0 (by decide) rfl rfl ?_
    refine ml_blk 2 (S' := (18, [(0, .ref a), (1, .ref me), (2, .int x2)], [.ref me, .int 24, .ref vd], M)) rfl ?_
    refine tg_int rfl hS.1 hY6 (by decide) rfl (fun x68 g69 => ?_)
    show ml _ _ _ (21, [(0, .ref a), (1, .ref me), (2, .int x2)], [.int x68, .int 24, .ref vd], M) _
    refine ml_blk 2 (S' := (23, [(0, .ref a), (1, .ref me), (2, .int x2)], [.int (x68 + 2), .int 24, .ref vd], M)) rfl ?_
    refine ml_call (a := [.ref vd, .int 24, .int (x68 + 2)]) (rest := []) rfl (okc_t rfl rfl rfl hS.1 hY4 (by decide)) rfl rfl (tw_Ve_wrong hS.1 hY4 (by omega)) (fun v70 M71 h72 => ?_)
    obtain ⟨⟨x73, rfl, z74⟩, h72⟩ := h72
    have hS75 := hS.tr h72
    show ml _ _ _ (26, [(0, .ref a), (1, .ref me), (2, .int x2)], [.int x73], M71) _
    exact ml_ret rfl (r_z (z74)) (⟨⟨_, rfl, z74⟩, hS75⟩)
set_option maxHeartbeats 2000000 in
theorem tw_Cl_codeIsDue {g : xe_G} {M : mi_H} {Y : yT} {a c b p vd ac da n me : Nat} {pp : List Nat}  (hW : WF g Y M) (hY0 : Y.1 a = some (2, [c, b, p, vd, ac])) (hY1 : Y.1 c = some (3, [b, da, n])) (hY2 : Y.1 b = some (1, [da, n])) (hY3 : Y.1 p = some (7, pp)) (hY4 : Y.1 vd = some (10, [])) (hY5 : Y.1 ac = some (0, [c, b, p, vd])) (hY6 : Y.1 me = some (6, [da, n])) {d : Nat} (hd : 3 ≤ d) : mt (mT g) d 54 [.ref a, .ref me] M (qZ g Y M) := by
  obtain ⟨d, rfl⟩ : ∃ e, d = e + 1 := ⟨d - 1, by omega⟩
  have hS := st.rf hW
  refine mt_in (b := mb_54 g) rfl rfl ?_
  show ml (mT g) d (mb_54 g).2 (0, [(0, .ref a), (1, .ref me)], [], M) _
  refine ml_blk 1 (S' := (1, [(0, .ref a), (1, .ref me)], [.ref a], M)) rfl ?_
  refine tg_ref (S' := (4, [(0, .ref a), (1, .ref me)], [.ref p], M)) rfl hS.1 hY0 (by decide) rfl rfl ?_
  refine ml_blk 1 (S' := (5, [(0, .ref a), (1, .ref me)], [.ref me, .ref p], M)) rfl ?_
  refine tg_int rfl hS.1 hY6 (by decide) rfl (fun x1 g2 => ?_)
  show ml _ _ _ (8, [(0, .ref a), (1, .ref me)], [.int x1, .ref p], M) _
  refine ml_blk 1 (S' := (10, [(0, .ref a), (1, .ref me)], [.ref (g.2.1 13), .int x1, .ref p], M)) rfl ?_
  refine ml_call (a := [.ref p, .int x1, .ref (g.2.1 13)]) (rest := []) rfl (okc_t rfl rfl rfl hS.1 hY3 (by decide)) rfl rfl (tq_textIs (lk := 13) hS.1 hY3 (by decide) (by omega)) (fun v3 M4 h5 => ?_)
  obtain ⟨⟨x6, rfl, z7⟩, h5⟩ := h5
  rw [h5]
  show ml _ _ _ (13, [(0, .ref a), (1, .ref me)], [.int x6], M) _
  have J_31 : ml (mT g) d (mb_54 g).2 (31, [(0, .ref a), (1, .ref me)], [.int x6], M) (qZ g Y M) := by
    refine ml_blk 3 (S' := (34, [(2, .int x6), (0, .ref a), (1, .ref me)], [.ref me, .int x6], M)) rfl ?_
    refine tg_vn rfl hS.1 hY6 (by decide) rfl (fun g10 => ?_) (fun b8 g10 h9 => ?_)
    · show ml _ _ _ (37, [(2, .int x6), (0, .ref a), (1, .ref me)], [.null, .int x6], M) _
      refine ml_blk 2 (S' := (45, [(0, .ref a), (1, .ref me)], [.int 0, .int x6], M)) rfl ?_
      refine ml_if2 (S1 := (64, [], [], M)) (S2 := (48, [(0, .ref a), (1, .ref me)], [], M)) rfl rfl rfl (fun c_45 => ?_) (fun c_45 => ?_)
      · have c_45 : x6 = 0 := of_decide_eq_true c_45
        refine ml_blk 2 (S' := (69, [], [.int 1], M)) rfl ?_
        exact ml_ret rfl (r_z (Or.inr rfl)) (⟨⟨_, rfl, Or.inr rfl⟩, hS⟩)
      · have c_45 : ¬ (x6 = 0) := of_decide_eq_false c_45
        refine ml_blk 1 (S' := (49, [(0, .ref a), (1, .ref me)], [.ref a], M)) rfl ?_
        refine tg_ref (S' := (52, [(0, .ref a), (1, .ref me)], [.ref vd], M)) rfl hS.1 hY0 (by decide) rfl rfl ?_
        refine ml_blk 2 (S' := (55, [(0, .ref a), (1, .ref me)], [.ref me, .int 27, .ref vd], M)) rfl ?_
        refine tg_int rfl hS.1 hY6 (by decide) rfl (fun x11 g12 => ?_)
        show ml _ _ _ (58, [(0, .ref a), (1, .ref me)], [.int x11, .int 27, .ref vd], M) _
        refine ml_call (a := [.ref vd, .int 27, .int x11]) (rest := []) rfl (okc_t rfl rfl rfl hS.1 hY4 (by decide)) rfl rfl (tw_Ve_wrong hS.1 hY4 (by omega)) (fun v13 M14 h15 => ?_)
        obtain ⟨⟨x16, rfl, z17⟩, h15⟩ := h15
        have hS18 := hS.tr h15
        show ml _ _ _ (61, [(0, .ref a), (1, .ref me)], [.int x16], M14) _
        refine ml_if (S1 := (68, [(0, .ref a), (1, .ref me)], [], M14)) (S2 := (64, [], [], M14)) rfl rfl rfl (fun c_61 => ?_) (fun c_61 => ?_)
        · have c_61 : x16 = 0 := of_decide_eq_true c_61
          refine ml_blk 1 (S' := (69, [], [.int 0], M14)) rfl ?_
          exact ml_ret rfl (r_z (Or.inl rfl)) (⟨⟨_, rfl, Or.inl rfl⟩, hS18⟩)
        · have c_61 : ¬ (x16 = 0) := of_decide_eq_false c_61
          refine ml_blk 2 (S' := (69, [], [.int 1], M14)) rfl ?_
          exact ml_ret rfl (r_z (Or.inr rfl)) (⟨⟨_, rfl, Or.inr rfl⟩, hS18⟩)
    · skip
      obtain ⟨p19, o20, h9⟩ := h9
      obtain ⟨⟨pp21, h22⟩, b23, h24⟩ := hS.1.lnk h9 (by decide)
      obtain ⟨da25, n26, h27⟩ := hS.1.lnk h24 (by decide)
      show ml _ _ _ (37, [(2, .int x6), (0, .ref a), (1, .ref me)], [.ref b8, .int x6], M) _
      refine ml_blk 3 (S' := (45, [(0, .ref a), (1, .ref me)], [.int 1, .int x6], M)) rfl ?_
      refine ml_if2 (S1 := (64, [], [], M)) (S2 := (48, [(0, .ref a), (1, .ref me)], [], M)) rfl rfl rfl (fun c_45 => ?_) (fun c_45 => ?_)
      · have c_45 : x6 = 1 := of_decide_eq_true c_45
        refine ml_blk 2 (S' := (69, [], [.int 1], M)) rfl ?_
        exact ml_ret rfl (r_z (Or.inr rfl)) (⟨⟨_, rfl, Or.inr rfl⟩, hS⟩)
      · have c_45 : ¬ (x6 = 1) := of_decide_eq_false c_45
        refine ml_blk 1 (S' := (49, [(0, .ref a), (1, .ref me)], [.ref a], M)) rfl ?_
        refine tg_ref (S' := (52, [(0, .ref a), (1, .ref me)], [.ref vd], M)) rfl hS.1 hY0 (by decide) rfl rfl ?_
        refine ml_blk 2 (S' := (55, [(0, .ref a), (1, .ref me)], [.ref me, .int 27, .ref vd], M)) rfl ?_
        refine tg_int rfl hS.1 hY6 (by decide) rfl (fun x28 g29 => ?_)
        show ml _ _ _ (58, [(0, .ref a), (1, .ref me)], [.int x28, .int 27, .ref vd], M) _
        refine ml_call (a := [.ref vd, .int 27, .int x28]) (rest := []) rfl (okc_t rfl rfl rfl hS.1 hY4 (by decide)) rfl rfl (tw_Ve_wrong hS.1 hY4 (by omega)) (fun v30 M31 h32 => ?_)
        obtain ⟨⟨x33, rfl, z34⟩, h32⟩ := h32
        have hS35 := hS.tr h32
        show ml _ _ _ (61, [(0, .ref a), (1, .ref me)], [.int x33], M31) _
        refine ml_if (S1 := (68, [(0, .ref a), (1, .ref me)], [], M31)) (S2 := (64, [], [], M31)) rfl rfl rfl (fun c_61 => ?_) (fun c_61 => ?_)
        · have c_61 : x33 = 0 := of_decide_eq_true c_61
          refine ml_blk 1 (S' := (69, [], [.int 0], M31)) rfl ?_
          exact ml_ret rfl (r_z (Or.inl rfl)) (⟨⟨_, rfl, Or.inl rfl⟩, hS35⟩)
        · have c_61 : ¬ (x33 = 0) := of_decide_eq_false c_61
          refine ml_blk 2 (S' := (69, [], [.int 1], M31)) rfl ?_
          exact ml_ret rfl (r_z (Or.inr rfl)) (⟨⟨_, rfl, Or.inr rfl⟩, hS35⟩)
  have J_26 : ml (mT g) d (mb_54 g).2 (26, [(0, .ref a), (1, .ref me)], [], M) (qZ g Y M) := by
    refine ml_blk 2 (S' := (31, [(0, .ref a), (1, .ref me)], [.int 1], M)) rfl ?_
    exact J_31 
  refine ml_if (S1 := (26, [(0, .ref a), (1, .ref me)], [], M)) (S2 := (16, [(0, .ref a), (1, .ref me)], [], M)) rfl rfl rfl (fun c_13 => ?_) (fun c_13 => ?_)
  · have c_13 : ¬ x6 = 0 := of_decide_eq_true c_13
    exact J_26 
  · have c_13 : ¬ (¬ x6 = 0) := of_decide_eq_false c_13
    refine ml_blk 2 (S' := (20, [(0, .ref a), (1, .ref me)], [.int 1280, .ref me], M)) rfl ?_
    refine ml_call (a := [.ref me, .int 1280]) (rest := []) rfl (okc_t rfl rfl rfl hS.1 hY6 (by decide)) rfl rfl (tw_Me_has hS.1 hY6 (by omega)) (fun v36 M37 h38 => ?_)
    obtain ⟨⟨x39, rfl, z40⟩, h38⟩ := h38
    rw [h38]
    show ml _ _ _ (23, [(0, .ref a), (1, .ref me)], [.int x39], M) _
    refine ml_if (S1 := (30, [(0, .ref a), (1, .ref me)], [], M)) (S2 := (26, [(0, .ref a), (1, .ref me)], [], M)) rfl rfl rfl (fun c_23 => ?_) (fun c_23 => ?_)
    · have c_23 : ¬ x39 = 0 := of_decide_eq_true c_23
      refine ml_blk 1 (S' := (31, [(0, .ref a), (1, .ref me)], [.int 0], M)) rfl ?_
      exact J_31 
    · have c_23 : ¬ (¬ x39 = 0) := of_decide_eq_false c_23
      exact J_26 
