/-! the code of a method (laid by wip/p2/c46.py) -/
set_option maxHeartbeats 2000000 in
theorem tw_Co_isMethodOfEither {g : xe_G} {M : mi_H} {Y : yT} {a p o k b da n : Nat} {pp : List Nat} {x1 : Int32}  (hW : WF g Y M) (hY0 : Y.1 a = some (4, [p, o, k])) (hY1 : Y.1 p = some (7, pp)) (hY2 : Y.1 o = some (5, [b, k])) (hY3 : Y.1 b = some (1, [da, n])) {d : Nat} (hd : 1 ≤ d) : mt (mT g) d 78 [.ref a, .int x1] M (pZ M) := by
  obtain ⟨d, rfl⟩ : ∃ e, d = e + 1 := ⟨d - 1, by omega⟩
  have hS : st g Y M M := st.rf hW
  refine mt_in (b := mb_78 g) rfl rfl ?_
  show ml (mT g) d (mb_78 g).2 (0, [(0, .ref a), (1, .int x1)], [], M) _
  refine ml_blk 2 (S' := (3, [(0, .ref a), (1, .int x1)], [.int 10, .int x1], M)) rfl ?_
  refine ml_if2 (S1 := (21, [], [], M)) (S2 := (6, [(0, .ref a), (1, .int x1)], [], M)) rfl rfl rfl (fun c_3 => ?_) (fun c_3 => ?_)
  · have c_3 : x1 = 10 := of_decide_eq_true c_3
    refine ml_st (S' := (22, [], [.int 1], M)) rfl rfl rfl ?_
    refine ml_st (S' := (26, [], [.int 1], M)) rfl rfl rfl ?_
    exact ml_ret rfl (r_z (Or.inr rfl)) (⟨⟨_, rfl, Or.inr rfl⟩, rfl⟩)
  · have c_3 : ¬ (x1 = 10) := of_decide_eq_false c_3
    refine ml_blk 2 (S' := (9, [(0, .ref a), (1, .int x1)], [.int 11, .int x1], M)) rfl ?_
    refine ml_if2 (S1 := (25, [], [], M)) (S2 := (12, [(0, .ref a), (1, .int x1)], [], M)) rfl rfl rfl (fun c_9 => ?_) (fun c_9 => ?_)
    · have c_9 : ¬ x1 = 11 := of_decide_eq_true c_9
      refine ml_st (S' := (26, [], [.int 0], M)) rfl rfl rfl ?_
      exact ml_ret rfl (r_z (Or.inl rfl)) (⟨⟨_, rfl, Or.inl rfl⟩, rfl⟩)
    · have c_9 : ¬ (¬ x1 = 11) := of_decide_eq_false c_9
      refine ml_st (S' := (13, [(0, .ref a), (1, .int x1)], [.ref a], M)) rfl rfl rfl ?_
      refine tg_int rfl hS.1 hY0 (by decide) rfl (fun u1 g2 => ?_)
      show ml _ _ _ (16, [(0, .ref a), (1, .int x1)], [.int u1], M) _
      refine ml_st (S' := (18, [(0, .ref a), (1, .int x1)], [.int 52, .int u1], M)) rfl rfl rfl ?_
      refine ml_if2 (S1 := (25, [], [], M)) (S2 := (21, [], [], M)) rfl rfl rfl (fun c_18 => ?_) (fun c_18 => ?_)
      · have c_18 : u1 < 52 := of_decide_eq_true c_18
        refine ml_st (S' := (26, [], [.int 0], M)) rfl rfl rfl ?_
        exact ml_ret rfl (r_z (Or.inl rfl)) (⟨⟨_, rfl, Or.inl rfl⟩, rfl⟩)
      · have c_18 : ¬ (u1 < 52) := of_decide_eq_false c_18
        refine ml_st (S' := (22, [], [.int 1], M)) rfl rfl rfl ?_
        refine ml_st (S' := (26, [], [.int 1], M)) rfl rfl rfl ?_
        exact ml_ret rfl (r_z (Or.inr rfl)) (⟨⟨_, rfl, Or.inr rfl⟩, rfl⟩)
set_option maxHeartbeats 2000000 in
theorem tw_Co_isOfTwoPlaces {g : xe_G} {M : mi_H} {Y : yT} {a p o k b da n : Nat} {pp : List Nat} {x1 : Int32}  (hW : WF g Y M) (hY0 : Y.1 a = some (4, [p, o, k])) (hY1 : Y.1 p = some (7, pp)) (hY2 : Y.1 o = some (5, [b, k])) (hY3 : Y.1 b = some (1, [da, n])) {d : Nat} (hd : 3 ≤ d) : mt (mT g) d 79 [.ref a, .int x1] M (pZ M) := by
  obtain ⟨d, rfl⟩ : ∃ e, d = e + 1 := ⟨d - 1, by omega⟩
  have hS : st g Y M M := st.rf hW
  refine mt_in (b := mb_79 g) rfl rfl ?_
  show ml (mT g) d (mb_79 g).2 (0, [(0, .ref a), (1, .int x1)], [], M) _
  refine ml_blk 2 (S' := (2, [(0, .ref a), (1, .int x1)], [.int 5, .int x1], M)) rfl ?_
  refine ml_if2 (S1 := (42, [], [], M)) (S2 := (5, [(0, .ref a), (1, .int x1)], [], M)) rfl rfl rfl (fun c_2 => ?_) (fun c_2 => ?_)
  · have c_2 : x1 = 5 := of_decide_eq_true c_2
    refine ml_st (S' := (43, [], [.int 1], M)) rfl rfl rfl ?_
    refine ml_st (S' := (47, [], [.int 1], M)) rfl rfl rfl ?_
    exact ml_ret rfl (r_z (Or.inr rfl)) (⟨⟨_, rfl, Or.inr rfl⟩, rfl⟩)
  · have c_2 : ¬ (x1 = 5) := of_decide_eq_false c_2
    refine ml_blk 2 (S' := (8, [(0, .ref a), (1, .int x1)], [.int 6, .int x1], M)) rfl ?_
    refine ml_if2 (S1 := (42, [], [], M)) (S2 := (11, [(0, .ref a), (1, .int x1)], [], M)) rfl rfl rfl (fun c_8 => ?_) (fun c_8 => ?_)
    · have c_8 : x1 = 6 := of_decide_eq_true c_8
      refine ml_st (S' := (43, [], [.int 1], M)) rfl rfl rfl ?_
      refine ml_st (S' := (47, [], [.int 1], M)) rfl rfl rfl ?_
      exact ml_ret rfl (r_z (Or.inr rfl)) (⟨⟨_, rfl, Or.inr rfl⟩, rfl⟩)
    · have c_8 : ¬ (x1 = 6) := of_decide_eq_false c_8
      refine ml_blk 2 (S' := (14, [(0, .ref a), (1, .int x1)], [.int 17, .int x1], M)) rfl ?_
      refine ml_if2 (S1 := (46, [], [], M)) (S2 := (17, [(0, .ref a), (1, .int x1)], [], M)) rfl rfl rfl (fun c_14 => ?_) (fun c_14 => ?_)
      · have c_14 : ¬ x1 = 17 := of_decide_eq_true c_14
        refine ml_st (S' := (47, [], [.int 0], M)) rfl rfl rfl ?_
        exact ml_ret rfl (r_z (Or.inl rfl)) (⟨⟨_, rfl, Or.inl rfl⟩, rfl⟩)
      · have c_14 : ¬ (¬ x1 = 17) := of_decide_eq_false c_14
        refine ml_st (S' := (18, [(0, .ref a), (1, .int x1)], [.ref a], M)) rfl rfl rfl ?_
        refine tg_ref (S' := (21, [(0, .ref a), (1, .int x1)], [.ref p], M)) rfl hS.1 hY0 (by decide) rfl rfl ?_
        refine ml_st (S' := (22, [(0, .ref a), (1, .int x1)], [.ref a, .ref p], M)) rfl rfl rfl ?_
        refine tg_ref (S' := (25, [(0, .ref a), (1, .int x1)], [.ref p, .ref p], M)) rfl hS.1 hY0 (by decide) rfl rfl ?_
        refine ml_st (S' := (26, [(0, .ref a), (1, .int x1)], [.ref a, .ref p, .ref p], M)) rfl rfl rfl ?_
        refine tg_ref (S' := (29, [(0, .ref a), (1, .int x1)], [.ref o, .ref p, .ref p], M)) rfl hS.1 hY0 (by decide) rfl rfl ?_
        refine tg_int rfl hS.1 hY2 (by decide) rfl (fun u1 g2 => ?_)
        show ml _ _ _ (32, [(0, .ref a), (1, .int x1)], [.int u1, .ref p, .ref p], M) _
        refine ml_call (a := [.ref p, .int u1]) (rest := [.ref p]) rfl (okc_t rfl rfl rfl hS.1 hY1 (by decide)) rfl rfl (tq_descriptorOf hS.1 hY1 (by omega)) (fun v3 M4 h5 => ?_)
        obtain ⟨⟨u6, rfl⟩, h5⟩ := h5
        rw [h5]
        show ml _ _ _ (35, [(0, .ref a), (1, .int x1)], [.int u6, .ref p], M) _
        refine ml_call (a := [.ref p, .int u6]) (rest := []) rfl (okc_t rfl rfl rfl hS.1 hY1 (by decide)) rfl rfl (tq_placesTold hS.1 hY1 (by omega)) (fun v7 M8 h9 => ?_)
        obtain ⟨⟨u10, rfl⟩, h9⟩ := h9
        rw [h9]
        show ml _ _ _ (38, [(0, .ref a), (1, .int x1)], [.int u10], M) _
        refine ml_st (S' := (39, [(0, .ref a), (1, .int x1)], [.int 2, .int u10], M)) rfl rfl rfl ?_
        refine ml_if2 (S1 := (46, [], [], M)) (S2 := (42, [], [], M)) rfl rfl rfl (fun c_39 => ?_) (fun c_39 => ?_)
        · have c_39 : ¬ u10 = 2 := of_decide_eq_true c_39
          refine ml_st (S' := (47, [], [.int 0], M)) rfl rfl rfl ?_
          exact ml_ret rfl (r_z (Or.inl rfl)) (⟨⟨_, rfl, Or.inl rfl⟩, rfl⟩)
        · have c_39 : ¬ (¬ u10 = 2) := of_decide_eq_false c_39
          refine ml_st (S' := (43, [], [.int 1], M)) rfl rfl rfl ?_
          refine ml_st (S' := (47, [], [.int 1], M)) rfl rfl rfl ?_
          exact ml_ret rfl (r_z (Or.inr rfl)) (⟨⟨_, rfl, Or.inr rfl⟩, rfl⟩)
set_option maxHeartbeats 2000000 in
theorem tw_Co_isLoadedByLdc {g : xe_G} {M : mi_H} {Y : yT} {a p o k b da n : Nat} {pp : List Nat} {x1 : Int32}  (hW : WF g Y M) (hY0 : Y.1 a = some (4, [p, o, k])) (hY1 : Y.1 p = some (7, pp)) (hY2 : Y.1 o = some (5, [b, k])) (hY3 : Y.1 b = some (1, [da, n])) {d : Nat} (hd : 3 ≤ d) : mt (mT g) d 77 [.ref a, .int x1] M (pZ M) := by
  obtain ⟨d, rfl⟩ : ∃ e, d = e + 1 := ⟨d - 1, by omega⟩
  have hS : st g Y M M := st.rf hW
  refine mt_in (b := mb_77 g) rfl rfl ?_
  show ml (mT g) d (mb_77 g).2 (0, [(0, .ref a), (1, .int x1)], [], M) _
  refine ml_st (S' := (1, [(0, .ref a), (1, .int x1)], [.int x1], M)) rfl rfl rfl ?_
  refine ml_sw rfl (fun t_1 ht_1 => ?_)
  have kt_1 := ht_1
  have ht_1 : t_1 ∈ [76, 78, 93, 108, 148] := mi_sw_sub ht_1 (by decide)
  simp only [List.mem_cons, List.not_mem_nil, or_false] at ht_1
  rcases ht_1 with rfl | rfl | rfl | rfl | rfl
  · show ml _ _ _ (76, [(0, .ref a), (1, .int x1)], [], M) _
    refine ml_st (S' := (77, [(0, .ref a), (1, .int x1)], [.int 1], M)) rfl rfl rfl ?_
    exact ml_ret rfl (r_z (Or.inr rfl)) (⟨⟨_, rfl, Or.inr rfl⟩, rfl⟩)
  · show ml _ _ _ (78, [(0, .ref a), (1, .int x1)], [], M) _
    refine ml_st (S' := (79, [(0, .ref a), (1, .int x1)], [.ref a], M)) rfl rfl rfl ?_
    refine tg_int rfl hS.1 hY0 (by decide) rfl (fun u1 g2 => ?_)
    show ml _ _ _ (82, [(0, .ref a), (1, .int x1)], [.int u1], M) _
    refine ml_st (S' := (84, [(0, .ref a), (1, .int x1)], [.int 49, .int u1], M)) rfl rfl rfl ?_
    refine ml_if2 (S1 := (91, [(0, .ref a), (1, .int x1)], [], M)) (S2 := (87, [(0, .ref a), (1, .int x1)], [], M)) rfl rfl rfl (fun c_84 => ?_) (fun c_84 => ?_)
    · have c_84 : u1 < 49 := of_decide_eq_true c_84
      refine ml_st (S' := (92, [], [.int 0], M)) rfl rfl rfl ?_
      exact ml_ret rfl (r_z (Or.inl rfl)) (⟨⟨_, rfl, Or.inl rfl⟩, rfl⟩)
    · have c_84 : ¬ (u1 < 49) := of_decide_eq_false c_84
      refine ml_st (S' := (88, [(0, .ref a), (1, .int x1)], [.int 1], M)) rfl rfl rfl ?_
      refine ml_st (S' := (92, [], [.int 1], M)) rfl rfl rfl ?_
      exact ml_ret rfl (r_z (Or.inr rfl)) (⟨⟨_, rfl, Or.inr rfl⟩, rfl⟩)
  · show ml _ _ _ (93, [(0, .ref a), (1, .int x1)], [], M) _
    refine ml_st (S' := (94, [(0, .ref a), (1, .int x1)], [.ref a], M)) rfl rfl rfl ?_
    refine tg_int rfl hS.1 hY0 (by decide) rfl (fun u3 g4 => ?_)
    show ml _ _ _ (97, [(0, .ref a), (1, .int x1)], [.int u3], M) _
    refine ml_st (S' := (99, [(0, .ref a), (1, .int x1)], [.int 51, .int u3], M)) rfl rfl rfl ?_
    refine ml_if2 (S1 := (106, [(0, .ref a), (1, .int x1)], [], M)) (S2 := (102, [(0, .ref a), (1, .int x1)], [], M)) rfl rfl rfl (fun c_99 => ?_) (fun c_99 => ?_)
    · have c_99 : u3 < 51 := of_decide_eq_true c_99
      refine ml_st (S' := (107, [], [.int 0], M)) rfl rfl rfl ?_
      exact ml_ret rfl (r_z (Or.inl rfl)) (⟨⟨_, rfl, Or.inl rfl⟩, rfl⟩)
    · have c_99 : ¬ (u3 < 51) := of_decide_eq_false c_99
      refine ml_st (S' := (103, [(0, .ref a), (1, .int x1)], [.int 1], M)) rfl rfl rfl ?_
      refine ml_st (S' := (107, [], [.int 1], M)) rfl rfl rfl ?_
      exact ml_ret rfl (r_z (Or.inr rfl)) (⟨⟨_, rfl, Or.inr rfl⟩, rfl⟩)
  · show ml _ _ _ (108, [(0, .ref a), (1, .int x1)], [], M) _
    refine ml_st (S' := (109, [(0, .ref a), (1, .int x1)], [.ref a], M)) rfl rfl rfl ?_
    refine tg_int rfl hS.1 hY0 (by decide) rfl (fun u5 g6 => ?_)
    show ml _ _ _ (112, [(0, .ref a), (1, .int x1)], [.int u5], M) _
    refine ml_st (S' := (114, [(0, .ref a), (1, .int x1)], [.int 55, .int u5], M)) rfl rfl rfl ?_
    refine ml_if2 (S1 := (146, [], [], M)) (S2 := (117, [(0, .ref a), (1, .int x1)], [], M)) rfl rfl rfl (fun c_114 => ?_) (fun c_114 => ?_)
    · have c_114 : u5 < 55 := of_decide_eq_true c_114
      refine ml_st (S' := (147, [], [.int 0], M)) rfl rfl rfl ?_
      exact ml_ret rfl (r_z (Or.inl rfl)) (⟨⟨_, rfl, Or.inl rfl⟩, rfl⟩)
    · have c_114 : ¬ (u5 < 55) := of_decide_eq_false c_114
      refine ml_st (S' := (118, [(0, .ref a), (1, .int x1)], [.ref a], M)) rfl rfl rfl ?_
      refine tg_ref (S' := (121, [(0, .ref a), (1, .int x1)], [.ref p], M)) rfl hS.1 hY0 (by decide) rfl rfl ?_
      refine ml_st (S' := (122, [(0, .ref a), (1, .int x1)], [.ref a, .ref p], M)) rfl rfl rfl ?_
      refine tg_ref (S' := (125, [(0, .ref a), (1, .int x1)], [.ref p, .ref p], M)) rfl hS.1 hY0 (by decide) rfl rfl ?_
      refine ml_st (S' := (126, [(0, .ref a), (1, .int x1)], [.ref a, .ref p, .ref p], M)) rfl rfl rfl ?_
      refine tg_ref (S' := (129, [(0, .ref a), (1, .int x1)], [.ref o, .ref p, .ref p], M)) rfl hS.1 hY0 (by decide) rfl rfl ?_
      refine tg_int rfl hS.1 hY2 (by decide) rfl (fun u7 g8 => ?_)
      show ml _ _ _ (132, [(0, .ref a), (1, .int x1)], [.int u7, .ref p, .ref p], M) _
      refine ml_call (a := [.ref p, .int u7]) (rest := [.ref p]) rfl (okc_t rfl rfl rfl hS.1 hY1 (by decide)) rfl rfl (tq_descriptorOf hS.1 hY1 (by omega)) (fun v9 M10 h11 => ?_)
      obtain ⟨⟨u12, rfl⟩, h11⟩ := h11
      rw [h11]
      show ml _ _ _ (135, [(0, .ref a), (1, .int x1)], [.int u12, .ref p], M) _
      refine ml_call (a := [.ref p, .int u12]) (rest := []) rfl (okc_t rfl rfl rfl hS.1 hY1 (by decide)) rfl rfl (tq_placesTold hS.1 hY1 (by omega)) (fun v13 M14 h15 => ?_)
      obtain ⟨⟨u16, rfl⟩, h15⟩ := h15
      rw [h15]
      show ml _ _ _ (138, [(0, .ref a), (1, .int x1)], [.int u16], M) _
      refine ml_st (S' := (139, [(0, .ref a), (1, .int x1)], [.int 1, .int u16], M)) rfl rfl rfl ?_
      refine ml_if2 (S1 := (146, [], [], M)) (S2 := (142, [(0, .ref a), (1, .int x1)], [], M)) rfl rfl rfl (fun c_139 => ?_) (fun c_139 => ?_)
      · have c_139 : ¬ u16 = 1 := of_decide_eq_true c_139
        refine ml_st (S' := (147, [], [.int 0], M)) rfl rfl rfl ?_
        exact ml_ret rfl (r_z (Or.inl rfl)) (⟨⟨_, rfl, Or.inl rfl⟩, rfl⟩)
      · have c_139 : ¬ (¬ u16 = 1) := of_decide_eq_false c_139
        refine ml_st (S' := (143, [(0, .ref a), (1, .int x1)], [.int 1], M)) rfl rfl rfl ?_
        refine ml_st (S' := (147, [], [.int 1], M)) rfl rfl rfl ?_
        exact ml_ret rfl (r_z (Or.inr rfl)) (⟨⟨_, rfl, Or.inr rfl⟩, rfl⟩)
  · show ml _ _ _ (148, [(0, .ref a), (1, .int x1)], [], M) _
    refine ml_st (S' := (149, [(0, .ref a), (1, .int x1)], [.int 0], M)) rfl rfl rfl ?_
    exact ml_ret rfl (r_z (Or.inl rfl)) (⟨⟨_, rfl, Or.inl rfl⟩, rfl⟩)
set_option maxHeartbeats 2000000 in
theorem tw_Co_callHolds {g : xe_G} {M : mi_H} {Y : yT} {a p o k b da n : Nat} {pp : List Nat} {x1 : Int32}  (hW : WF g Y M) (hY0 : Y.1 a = some (4, [p, o, k])) (hY1 : Y.1 p = some (7, pp)) (hY2 : Y.1 o = some (5, [b, k])) (hY3 : Y.1 b = some (1, [da, n])) {d : Nat} (hd : 4 ≤ d) : mt (mT g) d 75 [.ref a, .int x1] M (pZ M) := by
  obtain ⟨d, rfl⟩ : ∃ e, d = e + 1 := ⟨d - 1, by omega⟩
  have hS : st g Y M M := st.rf hW
  refine mt_in (b := mb_75 g) rfl rfl ?_
  show ml (mT g) d (mb_75 g).2 (0, [(0, .ref a), (1, .int x1)], [], M) _
  refine ml_st (S' := (1, [(0, .ref a), (1, .int x1)], [.ref a], M)) rfl rfl rfl ?_
  refine tg_ref (S' := (4, [(0, .ref a), (1, .int x1)], [.ref o], M)) rfl hS.1 hY0 (by decide) rfl rfl ?_
  refine tg_int rfl hS.1 hY2 (by decide) rfl (fun u1 g2 => ?_)
  show ml _ _ _ (7, [(0, .ref a), (1, .int x1)], [.int u1], M) _
  refine ml_sw rfl (fun t_7 ht_7 => ?_)
  have kt_7 := ht_7
  have ht_7 : t_7 ∈ [40, 69, 75, 106, 151, 163] := mi_sw_sub ht_7 (by decide)
  simp only [List.mem_cons, List.not_mem_nil, or_false] at ht_7
  rcases ht_7 with rfl | rfl | rfl | rfl | rfl | rfl
  · show ml _ _ _ (40, [(0, .ref a), (1, .int x1)], [], M) _
    refine ml_blk 2 (S' := (43, [(0, .ref a), (1, .int x1)], [.int 10, .int x1], M)) rfl ?_
    refine ml_if2 (S1 := (67, [], [], M)) (S2 := (46, [(0, .ref a), (1, .int x1)], [], M)) rfl rfl rfl (fun c_43 => ?_) (fun c_43 => ?_)
    · have c_43 : ¬ x1 = 10 := of_decide_eq_true c_43
      refine ml_st (S' := (68, [], [.int 0], M)) rfl rfl rfl ?_
      exact ml_ret rfl (r_z (Or.inl rfl)) (⟨⟨_, rfl, Or.inl rfl⟩, rfl⟩)
    · have c_43 : ¬ (¬ x1 = 10) := of_decide_eq_false c_43
      refine ml_st (S' := (47, [(0, .ref a), (1, .int x1)], [.ref a], M)) rfl rfl rfl ?_
      refine tg_ref (S' := (50, [(0, .ref a), (1, .int x1)], [.ref p], M)) rfl hS.1 hY0 (by decide) rfl rfl ?_
      refine ml_st (S' := (51, [(0, .ref a), (1, .int x1)], [.ref a, .ref p], M)) rfl rfl rfl ?_
      refine tg_ref (S' := (54, [(0, .ref a), (1, .int x1)], [.ref o, .ref p], M)) rfl hS.1 hY0 (by decide) rfl rfl ?_
      refine tg_int rfl hS.1 hY2 (by decide) rfl (fun u3 g4 => ?_)
      show ml _ _ _ (57, [(0, .ref a), (1, .int x1)], [.int u3, .ref p], M) _
      refine ml_call (a := [.ref p, .int u3]) (rest := []) rfl (okc_t rfl rfl rfl hS.1 hY1 (by decide)) rfl rfl (tw_Po_namesInit hS.1 hY1 (by omega)) (fun v5 M6 h7 => ?_)
      obtain ⟨⟨u8, rfl, z9⟩, h7⟩ := h7
      rw [h7]
      show ml _ _ _ (60, [(0, .ref a), (1, .int x1)], [.int u8], M) _
      refine ml_if (S1 := (67, [], [], M)) (S2 := (63, [(0, .ref a), (1, .int x1)], [], M)) rfl rfl rfl (fun c_60 => ?_) (fun c_60 => ?_)
      · have c_60 : ¬ u8 = 0 := of_decide_eq_true c_60
        refine ml_st (S' := (68, [], [.int 0], M)) rfl rfl rfl ?_
        exact ml_ret rfl (r_z (Or.inl rfl)) (⟨⟨_, rfl, Or.inl rfl⟩, rfl⟩)
      · have c_60 : ¬ (¬ u8 = 0) := of_decide_eq_false c_60
        refine ml_st (S' := (64, [(0, .ref a), (1, .int x1)], [.int 1], M)) rfl rfl rfl ?_
        refine ml_st (S' := (68, [], [.int 1], M)) rfl rfl rfl ?_
        exact ml_ret rfl (r_z (Or.inr rfl)) (⟨⟨_, rfl, Or.inr rfl⟩, rfl⟩)
  · show ml _ _ _ (69, [(0, .ref a), (1, .int x1)], [], M) _
    refine ml_blk 2 (S' := (71, [(0, .ref a), (1, .int x1)], [.int x1, .ref a], M)) rfl ?_
    refine ml_call (a := [.ref a, .int x1]) (rest := []) rfl (okc_t rfl rfl rfl hS.1 hY0 (by decide)) rfl rfl (tw_Co_isMethodOfEither hS.1 hY0 hY1 hY2 hY3 (by omega)) (fun v10 M11 h12 => ?_)
    obtain ⟨⟨u13, rfl, z14⟩, h12⟩ := h12
    rw [h12]
    show ml _ _ _ (74, [(0, .ref a), (1, .int x1)], [.int u13], M) _
    exact ml_ret rfl (r_z (z14)) (⟨⟨_, rfl, z14⟩, rfl⟩)
  · show ml _ _ _ (75, [(0, .ref a), (1, .int x1)], [], M) _
    refine ml_blk 2 (S' := (77, [(0, .ref a), (1, .int x1)], [.int x1, .ref a], M)) rfl ?_
    refine ml_call (a := [.ref a, .int x1]) (rest := []) rfl (okc_t rfl rfl rfl hS.1 hY0 (by decide)) rfl rfl (tw_Co_isMethodOfEither hS.1 hY0 hY1 hY2 hY3 (by omega)) (fun v15 M16 h17 => ?_)
    obtain ⟨⟨u18, rfl, z19⟩, h17⟩ := h17
    rw [h17]
    show ml _ _ _ (80, [(0, .ref a), (1, .int x1)], [.int u18], M) _
    refine ml_if (S1 := (104, [], [], M)) (S2 := (83, [(0, .ref a), (1, .int x1)], [], M)) rfl rfl rfl (fun c_80 => ?_) (fun c_80 => ?_)
    · have c_80 : u18 = 0 := of_decide_eq_true c_80
      refine ml_st (S' := (105, [], [.int 0], M)) rfl rfl rfl ?_
      exact ml_ret rfl (r_z (Or.inl rfl)) (⟨⟨_, rfl, Or.inl rfl⟩, rfl⟩)
    · have c_80 : ¬ (u18 = 0) := of_decide_eq_false c_80
      refine ml_st (S' := (84, [(0, .ref a), (1, .int x1)], [.ref a], M)) rfl rfl rfl ?_
      refine tg_ref (S' := (87, [(0, .ref a), (1, .int x1)], [.ref p], M)) rfl hS.1 hY0 (by decide) rfl rfl ?_
      refine ml_st (S' := (88, [(0, .ref a), (1, .int x1)], [.ref a, .ref p], M)) rfl rfl rfl ?_
      refine tg_ref (S' := (91, [(0, .ref a), (1, .int x1)], [.ref o, .ref p], M)) rfl hS.1 hY0 (by decide) rfl rfl ?_
      refine tg_int rfl hS.1 hY2 (by decide) rfl (fun u20 g21 => ?_)
      show ml _ _ _ (94, [(0, .ref a), (1, .int x1)], [.int u20, .ref p], M) _
      refine ml_call (a := [.ref p, .int u20]) (rest := []) rfl (okc_t rfl rfl rfl hS.1 hY1 (by decide)) rfl rfl (tw_Po_namesInit hS.1 hY1 (by omega)) (fun v22 M23 h24 => ?_)
      obtain ⟨⟨u25, rfl, z26⟩, h24⟩ := h24
      rw [h24]
      show ml _ _ _ (97, [(0, .ref a), (1, .int x1)], [.int u25], M) _
      refine ml_if (S1 := (104, [], [], M)) (S2 := (100, [(0, .ref a), (1, .int x1)], [], M)) rfl rfl rfl (fun c_97 => ?_) (fun c_97 => ?_)
      · have c_97 : ¬ u25 = 0 := of_decide_eq_true c_97
        refine ml_st (S' := (105, [], [.int 0], M)) rfl rfl rfl ?_
        exact ml_ret rfl (r_z (Or.inl rfl)) (⟨⟨_, rfl, Or.inl rfl⟩, rfl⟩)
      · have c_97 : ¬ (¬ u25 = 0) := of_decide_eq_false c_97
        refine ml_st (S' := (101, [(0, .ref a), (1, .int x1)], [.int 1], M)) rfl rfl rfl ?_
        refine ml_st (S' := (105, [], [.int 1], M)) rfl rfl rfl ?_
        exact ml_ret rfl (r_z (Or.inr rfl)) (⟨⟨_, rfl, Or.inr rfl⟩, rfl⟩)
  · show ml _ _ _ (106, [(0, .ref a), (1, .int x1)], [], M) _
    refine ml_blk 2 (S' := (109, [(0, .ref a), (1, .int x1)], [.int 11, .int x1], M)) rfl ?_
    refine ml_if2 (S1 := (149, [], [], M)) (S2 := (112, [(0, .ref a), (1, .int x1)], [], M)) rfl rfl rfl (fun c_109 => ?_) (fun c_109 => ?_)
    · have c_109 : ¬ x1 = 11 := of_decide_eq_true c_109
      refine ml_st (S' := (150, [], [.int 0], M)) rfl rfl rfl ?_
      exact ml_ret rfl (r_z (Or.inl rfl)) (⟨⟨_, rfl, Or.inl rfl⟩, rfl⟩)
    · have c_109 : ¬ (¬ x1 = 11) := of_decide_eq_false c_109
      refine ml_st (S' := (113, [(0, .ref a), (1, .int x1)], [.ref a], M)) rfl rfl rfl ?_
      refine tg_ref (S' := (116, [(0, .ref a), (1, .int x1)], [.ref o], M)) rfl hS.1 hY0 (by decide) rfl rfl ?_
      refine tg_int rfl hS.1 hY2 (by decide) rfl (fun u27 g28 => ?_)
      show ml _ _ _ (119, [(0, .ref a), (1, .int x1)], [.int u27], M) _
      refine ml_st (S' := (120, [(0, .ref a), (1, .int x1)], [.ref a, .int u27], M)) rfl rfl rfl ?_
      refine tg_ref (S' := (123, [(0, .ref a), (1, .int x1)], [.ref p, .int u27], M)) rfl hS.1 hY0 (by decide) rfl rfl ?_
      refine ml_st (S' := (124, [(0, .ref a), (1, .int x1)], [.ref a, .ref p, .int u27], M)) rfl rfl rfl ?_
      refine tg_ref (S' := (127, [(0, .ref a), (1, .int x1)], [.ref p, .ref p, .int u27], M)) rfl hS.1 hY0 (by decide) rfl rfl ?_
      refine ml_st (S' := (128, [(0, .ref a), (1, .int x1)], [.ref a, .ref p, .ref p, .int u27], M)) rfl rfl rfl ?_
      refine tg_ref (S' := (131, [(0, .ref a), (1, .int x1)], [.ref o, .ref p, .ref p, .int u27], M)) rfl hS.1 hY0 (by decide) rfl rfl ?_
      refine tg_int rfl hS.1 hY2 (by decide) rfl (fun u29 g30 => ?_)
      show ml _ _ _ (134, [(0, .ref a), (1, .int x1)], [.int u29, .ref p, .ref p, .int u27], M) _
      refine ml_call (a := [.ref p, .int u29]) (rest := [.ref p, .int u27]) rfl (okc_t rfl rfl rfl hS.1 hY1 (by decide)) rfl rfl (tq_descriptorOf hS.1 hY1 (by omega)) (fun v31 M32 h33 => ?_)
      obtain ⟨⟨u34, rfl⟩, h33⟩ := h33
      rw [h33]
      show ml _ _ _ (137, [(0, .ref a), (1, .int x1)], [.int u34, .ref p, .int u27], M) _
      refine ml_call (a := [.ref p, .int u34]) (rest := [.int u27]) rfl (okc_t rfl rfl rfl hS.1 hY1 (by decide)) rfl rfl (tq_argumentPlaces hS.1 hY1 (by omega)) (fun v35 M36 h37 => ?_)
      obtain ⟨⟨u38, rfl⟩, h37⟩ := h37
      rw [h37]
      show ml _ _ _ (140, [(0, .ref a), (1, .int x1)], [.int u38, .int u27], M) _
      refine ml_blk 2 (S' := (142, [(0, .ref a), (1, .int x1)], [.int (u38 + 1), .int u27], M)) rfl ?_
      refine ml_if2 (S1 := (149, [], [], M)) (S2 := (145, [(0, .ref a), (1, .int x1)], [], M)) rfl rfl rfl (fun c_142 => ?_) (fun c_142 => ?_)
      · have c_142 : ¬ u27 = (u38 + 1) := of_decide_eq_true c_142
        refine ml_st (S' := (150, [], [.int 0], M)) rfl rfl rfl ?_
        exact ml_ret rfl (r_z (Or.inl rfl)) (⟨⟨_, rfl, Or.inl rfl⟩, rfl⟩)
      · have c_142 : ¬ (¬ u27 = (u38 + 1)) := of_decide_eq_false c_142
        refine ml_st (S' := (146, [(0, .ref a), (1, .int x1)], [.int 1], M)) rfl rfl rfl ?_
        refine ml_st (S' := (150, [], [.int 1], M)) rfl rfl rfl ?_
        exact ml_ret rfl (r_z (Or.inr rfl)) (⟨⟨_, rfl, Or.inr rfl⟩, rfl⟩)
  · show ml _ _ _ (151, [(0, .ref a), (1, .int x1)], [], M) _
    refine ml_blk 2 (S' := (154, [(0, .ref a), (1, .int x1)], [.int 18, .int x1], M)) rfl ?_
    refine ml_if2 (S1 := (161, [(0, .ref a), (1, .int x1)], [], M)) (S2 := (157, [(0, .ref a), (1, .int x1)], [], M)) rfl rfl rfl (fun c_154 => ?_) (fun c_154 => ?_)
    · have c_154 : ¬ x1 = 18 := of_decide_eq_true c_154
      refine ml_st (S' := (162, [], [.int 0], M)) rfl rfl rfl ?_
      exact ml_ret rfl (r_z (Or.inl rfl)) (⟨⟨_, rfl, Or.inl rfl⟩, rfl⟩)
    · have c_154 : ¬ (¬ x1 = 18) := of_decide_eq_false c_154
      refine ml_st (S' := (158, [(0, .ref a), (1, .int x1)], [.int 1], M)) rfl rfl rfl ?_
      refine ml_st (S' := (162, [], [.int 1], M)) rfl rfl rfl ?_
      exact ml_ret rfl (r_z (Or.inr rfl)) (⟨⟨_, rfl, Or.inr rfl⟩, rfl⟩)
  · show ml _ _ _ (163, [(0, .ref a), (1, .int x1)], [], M) _
    refine ml_st (S' := (164, [(0, .ref a), (1, .int x1)], [.int 1], M)) rfl rfl rfl ?_
    exact ml_ret rfl (r_z (Or.inr rfl)) (⟨⟨_, rfl, Or.inr rfl⟩, rfl⟩)
set_option maxHeartbeats 2000000 in
theorem tw_Co_operandsHold {g : xe_G} {M : mi_H} {Y : yT} {a p o k b da n : Nat} {pp : List Nat}  (hW : WF g Y M) (hY0 : Y.1 a = some (4, [p, o, k])) (hY1 : Y.1 p = some (7, pp)) (hY2 : Y.1 o = some (5, [b, k])) (hY3 : Y.1 b = some (1, [da, n])) {d : Nat} (hd : 5 ≤ d) : mt (mT g) d 82 [.ref a] M (pZ M) := by
  obtain ⟨d, rfl⟩ : ∃ e, d = e + 1 := ⟨d - 1, by omega⟩
  have hS : st g Y M M := st.rf hW
  refine mt_in (b := mb_82 g) rfl rfl ?_
  show ml (mT g) d (mb_82 g).2 (0, [(0, .ref a)], [], M) _
  refine ml_st (S' := (1, [(0, .ref a)], [.ref a], M)) rfl rfl rfl ?_
  refine tg_ref (S' := (4, [(0, .ref a)], [.ref o], M)) rfl hS.1 hY0 (by decide) rfl rfl ?_
  refine tg_int rfl hS.1 hY2 (by decide) rfl (fun u1 g2 => ?_)
  show ml _ _ _ (7, [(0, .ref a)], [.int u1], M) _
  refine ml_if (S1 := (70, [(0, .ref a)], [], M)) (S2 := (10, [(0, .ref a)], [], M)) rfl rfl rfl (fun c_7 => ?_) (fun c_7 => ?_)
  · have c_7 : u1 ≤ 0 := of_decide_eq_true c_7
    refine ml_st (S' := (71, [(0, .ref a)], [.ref a], M)) rfl rfl rfl ?_
    refine tg_ref (S' := (74, [(0, .ref a)], [.ref o], M)) rfl hS.1 hY0 (by decide) rfl rfl ?_
    refine tg_int rfl hS.1 hY2 (by decide) rfl (fun u3 g4 => ?_)
    show ml _ _ _ (77, [(0, .ref a)], [.int u3], M) _
    refine ml_sw rfl (fun t_77 ht_77 => ?_)
    have kt_77 := ht_77
    have ht_77 : t_77 ∈ [192, 207, 236, 255, 274, 299, 314, 359, 384, 444] := mi_sw_sub ht_77 (by decide)
    simp only [List.mem_cons, List.not_mem_nil, or_false] at ht_77
    rcases ht_77 with rfl | rfl | rfl | rfl | rfl | rfl | rfl | rfl | rfl | rfl
    · show ml _ _ _ (192, [(0, .ref a)], [], M) _
      refine ml_st (S' := (193, [(0, .ref a)], [.ref a], M)) rfl rfl rfl ?_
      refine tg_int rfl hS.1 hY0 (by decide) rfl (fun u5 g6 => ?_)
      show ml _ _ _ (196, [(0, .ref a)], [.int u5], M) _
      refine ml_st (S' := (198, [(0, .ref a)], [.int 51, .int u5], M)) rfl rfl rfl ?_
      refine ml_if2 (S1 := (205, [(0, .ref a)], [], M)) (S2 := (201, [(0, .ref a)], [], M)) rfl rfl rfl (fun c_198 => ?_) (fun c_198 => ?_)
      · have c_198 : 51 ≤ u5 := of_decide_eq_true c_198
        refine ml_st (S' := (206, [], [.int 0], M)) rfl rfl rfl ?_
        exact ml_ret rfl (r_z (Or.inl rfl)) (⟨⟨_, rfl, Or.inl rfl⟩, rfl⟩)
      · have c_198 : ¬ (51 ≤ u5) := of_decide_eq_false c_198
        refine ml_st (S' := (202, [(0, .ref a)], [.int 1], M)) rfl rfl rfl ?_
        refine ml_st (S' := (206, [], [.int 1], M)) rfl rfl rfl ?_
        exact ml_ret rfl (r_z (Or.inr rfl)) (⟨⟨_, rfl, Or.inr rfl⟩, rfl⟩)
    · show ml _ _ _ (207, [(0, .ref a)], [], M) _
      refine ml_st (S' := (208, [(0, .ref a)], [.ref a], M)) rfl rfl rfl ?_
      refine tg_ref (S' := (211, [(0, .ref a)], [.ref o], M)) rfl hS.1 hY0 (by decide) rfl rfl ?_
      refine tg_int rfl hS.1 hY2 (by decide) rfl (fun u7 g8 => ?_)
      show ml _ _ _ (214, [(0, .ref a)], [.int u7], M) _
      refine ml_st (S' := (215, [(0, .ref a)], [.int 4, .int u7], M)) rfl rfl rfl ?_
      refine ml_if2 (S1 := (234, [], [], M)) (S2 := (218, [(0, .ref a)], [], M)) rfl rfl rfl (fun c_215 => ?_) (fun c_215 => ?_)
      · have c_215 : u7 < 4 := of_decide_eq_true c_215
        refine ml_st (S' := (235, [], [.int 0], M)) rfl rfl rfl ?_
        exact ml_ret rfl (r_z (Or.inl rfl)) (⟨⟨_, rfl, Or.inl rfl⟩, rfl⟩)
      · have c_215 : ¬ (u7 < 4) := of_decide_eq_false c_215
        refine ml_st (S' := (219, [(0, .ref a)], [.ref a], M)) rfl rfl rfl ?_
        refine tg_ref (S' := (222, [(0, .ref a)], [.ref o], M)) rfl hS.1 hY0 (by decide) rfl rfl ?_
        refine ml_get (S' := (225, [(0, .ref a)], [.int u7], M)) rfl g8 rfl ?_
        refine ml_st (S' := (227, [(0, .ref a)], [.int 11, .int u7], M)) rfl rfl rfl ?_
        refine ml_if2 (S1 := (234, [], [], M)) (S2 := (230, [(0, .ref a)], [], M)) rfl rfl rfl (fun c_227 => ?_) (fun c_227 => ?_)
        · have c_227 : 11 < u7 := of_decide_eq_true c_227
          refine ml_st (S' := (235, [], [.int 0], M)) rfl rfl rfl ?_
          exact ml_ret rfl (r_z (Or.inl rfl)) (⟨⟨_, rfl, Or.inl rfl⟩, rfl⟩)
        · have c_227 : ¬ (11 < u7) := of_decide_eq_false c_227
          refine ml_st (S' := (231, [(0, .ref a)], [.int 1], M)) rfl rfl rfl ?_
          refine ml_st (S' := (235, [], [.int 1], M)) rfl rfl rfl ?_
          exact ml_ret rfl (r_z (Or.inr rfl)) (⟨⟨_, rfl, Or.inr rfl⟩, rfl⟩)
    · show ml _ _ _ (236, [(0, .ref a)], [], M) _
      refine ml_blk 2 (S' := (238, [(0, .ref a)], [.ref a, .ref a], M)) rfl ?_
      refine tg_ref (S' := (241, [(0, .ref a)], [.ref p, .ref a], M)) rfl hS.1 hY0 (by decide) rfl rfl ?_
      refine ml_st (S' := (242, [(0, .ref a)], [.ref a, .ref p, .ref a], M)) rfl rfl rfl ?_
      refine tg_ref (S' := (245, [(0, .ref a)], [.ref o, .ref p, .ref a], M)) rfl hS.1 hY0 (by decide) rfl rfl ?_
      refine tg_int rfl hS.1 hY2 (by decide) rfl (fun u9 g10 => ?_)
      show ml _ _ _ (248, [(0, .ref a)], [.int u9, .ref p, .ref a], M) _
      refine ml_call (a := [.ref p, .int u9]) (rest := [.ref a]) rfl (okc_t rfl rfl rfl hS.1 hY1 (by decide)) rfl rfl (tq_tagOf hS.1 hY1 (by omega)) (fun v11 M12 h13 => ?_)
      obtain ⟨⟨u14, rfl⟩, h13⟩ := h13
      rw [h13]
      show ml _ _ _ (251, [(0, .ref a)], [.int u14, .ref a], M) _
      refine ml_call (a := [.ref a, .int u14]) (rest := []) rfl (okc_t rfl rfl rfl hS.1 hY0 (by decide)) rfl rfl (tw_Co_isLoadedByLdc hS.1 hY0 hY1 hY2 hY3 (by omega)) (fun v15 M16 h17 => ?_)
      obtain ⟨⟨u18, rfl, z19⟩, h17⟩ := h17
      rw [h17]
      show ml _ _ _ (254, [(0, .ref a)], [.int u18], M) _
      exact ml_ret rfl (r_z (z19)) (⟨⟨_, rfl, z19⟩, rfl⟩)
    · show ml _ _ _ (255, [(0, .ref a)], [], M) _
      refine ml_blk 2 (S' := (257, [(0, .ref a)], [.ref a, .ref a], M)) rfl ?_
      refine tg_ref (S' := (260, [(0, .ref a)], [.ref p, .ref a], M)) rfl hS.1 hY0 (by decide) rfl rfl ?_
      refine ml_st (S' := (261, [(0, .ref a)], [.ref a, .ref p, .ref a], M)) rfl rfl rfl ?_
      refine tg_ref (S' := (264, [(0, .ref a)], [.ref o, .ref p, .ref a], M)) rfl hS.1 hY0 (by decide) rfl rfl ?_
      refine tg_int rfl hS.1 hY2 (by decide) rfl (fun u20 g21 => ?_)
      show ml _ _ _ (267, [(0, .ref a)], [.int u20, .ref p, .ref a], M) _
      refine ml_call (a := [.ref p, .int u20]) (rest := [.ref a]) rfl (okc_t rfl rfl rfl hS.1 hY1 (by decide)) rfl rfl (tq_tagOf hS.1 hY1 (by omega)) (fun v22 M23 h24 => ?_)
      obtain ⟨⟨u25, rfl⟩, h24⟩ := h24
      rw [h24]
      show ml _ _ _ (270, [(0, .ref a)], [.int u25, .ref a], M) _
      refine ml_call (a := [.ref a, .int u25]) (rest := []) rfl (okc_t rfl rfl rfl hS.1 hY0 (by decide)) rfl rfl (tw_Co_isOfTwoPlaces hS.1 hY0 hY1 hY2 hY3 (by omega)) (fun v26 M27 h28 => ?_)
      obtain ⟨⟨u29, rfl, z30⟩, h28⟩ := h28
      rw [h28]
      show ml _ _ _ (273, [(0, .ref a)], [.int u29], M) _
      exact ml_ret rfl (r_z (z30)) (⟨⟨_, rfl, z30⟩, rfl⟩)
    · show ml _ _ _ (274, [(0, .ref a)], [], M) _
      refine ml_st (S' := (275, [(0, .ref a)], [.ref a], M)) rfl rfl rfl ?_
      refine tg_ref (S' := (278, [(0, .ref a)], [.ref p], M)) rfl hS.1 hY0 (by decide) rfl rfl ?_
      refine ml_st (S' := (279, [(0, .ref a)], [.ref a, .ref p], M)) rfl rfl rfl ?_
      refine tg_ref (S' := (282, [(0, .ref a)], [.ref o, .ref p], M)) rfl hS.1 hY0 (by decide) rfl rfl ?_
      refine tg_int rfl hS.1 hY2 (by decide) rfl (fun u31 g32 => ?_)
      show ml _ _ _ (285, [(0, .ref a)], [.int u31, .ref p], M) _
      refine ml_call (a := [.ref p, .int u31]) (rest := []) rfl (okc_t rfl rfl rfl hS.1 hY1 (by decide)) rfl rfl (tq_tagOf hS.1 hY1 (by omega)) (fun v33 M34 h35 => ?_)
      obtain ⟨⟨u36, rfl⟩, h35⟩ := h35
      rw [h35]
      show ml _ _ _ (288, [(0, .ref a)], [.int u36], M) _
      refine ml_st (S' := (290, [(0, .ref a)], [.int 9, .int u36], M)) rfl rfl rfl ?_
      refine ml_if2 (S1 := (297, [(0, .ref a)], [], M)) (S2 := (293, [(0, .ref a)], [], M)) rfl rfl rfl (fun c_290 => ?_) (fun c_290 => ?_)
      · have c_290 : ¬ u36 = 9 := of_decide_eq_true c_290
        refine ml_st (S' := (298, [], [.int 0], M)) rfl rfl rfl ?_
        exact ml_ret rfl (r_z (Or.inl rfl)) (⟨⟨_, rfl, Or.inl rfl⟩, rfl⟩)
      · have c_290 : ¬ (¬ u36 = 9) := of_decide_eq_false c_290
        refine ml_st (S' := (294, [(0, .ref a)], [.int 1], M)) rfl rfl rfl ?_
        refine ml_st (S' := (298, [], [.int 1], M)) rfl rfl rfl ?_
        exact ml_ret rfl (r_z (Or.inr rfl)) (⟨⟨_, rfl, Or.inr rfl⟩, rfl⟩)
    · show ml _ _ _ (299, [(0, .ref a)], [], M) _
      refine ml_st (S' := (300, [(0, .ref a)], [.ref a], M)) rfl rfl rfl ?_
      refine tg_ref (S' := (303, [(0, .ref a)], [.ref p], M)) rfl hS.1 hY0 (by decide) rfl rfl ?_
      refine ml_st (S' := (304, [(0, .ref a)], [.ref a, .ref p], M)) rfl rfl rfl ?_
      refine tg_ref (S' := (307, [(0, .ref a)], [.ref o, .ref p], M)) rfl hS.1 hY0 (by decide) rfl rfl ?_
      refine tg_int rfl hS.1 hY2 (by decide) rfl (fun u37 g38 => ?_)
      show ml _ _ _ (310, [(0, .ref a)], [.int u37, .ref p], M) _
      refine ml_call (a := [.ref p, .int u37]) (rest := []) rfl (okc_t rfl rfl rfl hS.1 hY1 (by decide)) rfl rfl (tq_isPlainClass hS.1 hY1 (by omega)) (fun v39 M40 h41 => ?_)
      obtain ⟨⟨u42, rfl, z43⟩, h41⟩ := h41
      rw [h41]
      show ml _ _ _ (313, [(0, .ref a)], [.int u42], M) _
      exact ml_ret rfl (r_z (z43)) (⟨⟨_, rfl, z43⟩, rfl⟩)
    · show ml _ _ _ (314, [(0, .ref a)], [], M) _
      refine ml_st (S' := (315, [(0, .ref a)], [.ref a], M)) rfl rfl rfl ?_
      refine tg_ref (S' := (318, [(0, .ref a)], [.ref p], M)) rfl hS.1 hY0 (by decide) rfl rfl ?_
      refine ml_st (S' := (319, [(0, .ref a)], [.ref a, .ref p], M)) rfl rfl rfl ?_
      refine tg_ref (S' := (322, [(0, .ref a)], [.ref o, .ref p], M)) rfl hS.1 hY0 (by decide) rfl rfl ?_
      refine tg_int rfl hS.1 hY2 (by decide) rfl (fun u44 g45 => ?_)
      show ml _ _ _ (325, [(0, .ref a)], [.int u44, .ref p], M) _
      refine ml_call (a := [.ref p, .int u44]) (rest := []) rfl (okc_t rfl rfl rfl hS.1 hY1 (by decide)) rfl rfl (tq_tagOf hS.1 hY1 (by omega)) (fun v46 M47 h48 => ?_)
      obtain ⟨⟨u49, rfl⟩, h48⟩ := h48
      rw [h48]
      show ml _ _ _ (328, [(0, .ref a)], [.int u49], M) _
      refine ml_st (S' := (330, [(0, .ref a)], [.int 7, .int u49], M)) rfl rfl rfl ?_
      refine ml_if2 (S1 := (357, [], [], M)) (S2 := (333, [(0, .ref a)], [], M)) rfl rfl rfl (fun c_330 => ?_) (fun c_330 => ?_)
      · have c_330 : ¬ u49 = 7 := of_decide_eq_true c_330
        refine ml_st (S' := (358, [], [.int 0], M)) rfl rfl rfl ?_
        exact ml_ret rfl (r_z (Or.inl rfl)) (⟨⟨_, rfl, Or.inl rfl⟩, rfl⟩)
      · have c_330 : ¬ (¬ u49 = 7) := of_decide_eq_false c_330
        refine ml_st (S' := (334, [(0, .ref a)], [.ref a], M)) rfl rfl rfl ?_
        refine tg_ref (S' := (337, [(0, .ref a)], [.ref p], M)) rfl hS.1 hY0 (by decide) rfl rfl ?_
        refine ml_st (S' := (338, [(0, .ref a)], [.ref a, .ref p], M)) rfl rfl rfl ?_
        refine tg_ref (S' := (341, [(0, .ref a)], [.ref o, .ref p], M)) rfl hS.1 hY0 (by decide) rfl rfl ?_
        refine ml_get (S' := (344, [(0, .ref a)], [.int u44, .ref p], M)) rfl g45 rfl ?_
        refine ml_call (a := [.ref p, .int u44]) (rest := []) rfl (okc_t rfl rfl rfl hS.1 hY1 (by decide)) rfl rfl (tq_dimensionsOf hS.1 hY1 (by omega)) (fun v50 M51 h52 => ?_)
        obtain ⟨⟨u53, rfl⟩, h52⟩ := h52
        rw [h52]
        show ml _ _ _ (347, [(0, .ref a)], [.int u53], M) _
        refine ml_st (S' := (350, [(0, .ref a)], [.int 255, .int u53], M)) rfl rfl rfl ?_
        refine ml_if2 (S1 := (357, [], [], M)) (S2 := (353, [(0, .ref a)], [], M)) rfl rfl rfl (fun c_350 => ?_) (fun c_350 => ?_)
        · have c_350 : 255 ≤ u53 := of_decide_eq_true c_350
          refine ml_st (S' := (358, [], [.int 0], M)) rfl rfl rfl ?_
          exact ml_ret rfl (r_z (Or.inl rfl)) (⟨⟨_, rfl, Or.inl rfl⟩, rfl⟩)
        · have c_350 : ¬ (255 ≤ u53) := of_decide_eq_false c_350
          refine ml_st (S' := (354, [(0, .ref a)], [.int 1], M)) rfl rfl rfl ?_
          refine ml_st (S' := (358, [], [.int 1], M)) rfl rfl rfl ?_
          exact ml_ret rfl (r_z (Or.inr rfl)) (⟨⟨_, rfl, Or.inr rfl⟩, rfl⟩)
    · show ml _ _ _ (359, [(0, .ref a)], [], M) _
      refine ml_st (S' := (360, [(0, .ref a)], [.ref a], M)) rfl rfl rfl ?_
      refine tg_ref (S' := (363, [(0, .ref a)], [.ref p], M)) rfl hS.1 hY0 (by decide) rfl rfl ?_
      refine ml_st (S' := (364, [(0, .ref a)], [.ref a, .ref p], M)) rfl rfl rfl ?_
      refine tg_ref (S' := (367, [(0, .ref a)], [.ref o, .ref p], M)) rfl hS.1 hY0 (by decide) rfl rfl ?_
      refine tg_int rfl hS.1 hY2 (by decide) rfl (fun u54 g55 => ?_)
      show ml _ _ _ (370, [(0, .ref a)], [.int u54, .ref p], M) _
      refine ml_call (a := [.ref p, .int u54]) (rest := []) rfl (okc_t rfl rfl rfl hS.1 hY1 (by decide)) rfl rfl (tq_tagOf hS.1 hY1 (by omega)) (fun v56 M57 h58 => ?_)
      obtain ⟨⟨u59, rfl⟩, h58⟩ := h58
      rw [h58]
      show ml _ _ _ (373, [(0, .ref a)], [.int u59], M) _
      refine ml_st (S' := (375, [(0, .ref a)], [.int 7, .int u59], M)) rfl rfl rfl ?_
      refine ml_if2 (S1 := (382, [(0, .ref a)], [], M)) (S2 := (378, [(0, .ref a)], [], M)) rfl rfl rfl (fun c_375 => ?_) (fun c_375 => ?_)
      · have c_375 : ¬ u59 = 7 := of_decide_eq_true c_375
        refine ml_st (S' := (383, [], [.int 0], M)) rfl rfl rfl ?_
        exact ml_ret rfl (r_z (Or.inl rfl)) (⟨⟨_, rfl, Or.inl rfl⟩, rfl⟩)
      · have c_375 : ¬ (¬ u59 = 7) := of_decide_eq_false c_375
        refine ml_st (S' := (379, [(0, .ref a)], [.int 1], M)) rfl rfl rfl ?_
        refine ml_st (S' := (383, [], [.int 1], M)) rfl rfl rfl ?_
        exact ml_ret rfl (r_z (Or.inr rfl)) (⟨⟨_, rfl, Or.inr rfl⟩, rfl⟩)
    · show ml _ _ _ (384, [(0, .ref a)], [], M) _
      refine ml_st (S' := (385, [(0, .ref a)], [.ref a], M)) rfl rfl rfl ?_
      refine tg_ref (S' := (388, [(0, .ref a)], [.ref p], M)) rfl hS.1 hY0 (by decide) rfl rfl ?_
      refine ml_st (S' := (389, [(0, .ref a)], [.ref a, .ref p], M)) rfl rfl rfl ?_
      refine tg_ref (S' := (392, [(0, .ref a)], [.ref o, .ref p], M)) rfl hS.1 hY0 (by decide) rfl rfl ?_
      refine tg_int rfl hS.1 hY2 (by decide) rfl (fun u60 g61 => ?_)
      show ml _ _ _ (395, [(0, .ref a)], [.int u60, .ref p], M) _
      refine ml_call (a := [.ref p, .int u60]) (rest := []) rfl (okc_t rfl rfl rfl hS.1 hY1 (by decide)) rfl rfl (tq_tagOf hS.1 hY1 (by omega)) (fun v62 M63 h64 => ?_)
      obtain ⟨⟨u65, rfl⟩, h64⟩ := h64
      rw [h64]
      show ml _ _ _ (398, [(0, .ref a)], [.int u65], M) _
      refine ml_st (S' := (400, [(0, .ref a)], [.int 7, .int u65], M)) rfl rfl rfl ?_
      refine ml_if2 (S1 := (442, [], [], M)) (S2 := (403, [(0, .ref a)], [], M)) rfl rfl rfl (fun c_400 => ?_) (fun c_400 => ?_)
      · have c_400 : ¬ u65 = 7 := of_decide_eq_true c_400
        refine ml_st (S' := (443, [], [.int 0], M)) rfl rfl rfl ?_
        exact ml_ret rfl (r_z (Or.inl rfl)) (⟨⟨_, rfl, Or.inl rfl⟩, rfl⟩)
      · have c_400 : ¬ (¬ u65 = 7) := of_decide_eq_false c_400
        refine ml_st (S' := (404, [(0, .ref a)], [.ref a], M)) rfl rfl rfl ?_
        refine tg_ref (S' := (407, [(0, .ref a)], [.ref o], M)) rfl hS.1 hY0 (by decide) rfl rfl ?_
        refine tg_int rfl hS.1 hY2 (by decide) rfl (fun u66 g67 => ?_)
        show ml _ _ _ (410, [(0, .ref a)], [.int u66], M) _
        refine ml_st (S' := (411, [(0, .ref a)], [.int 1, .int u66], M)) rfl rfl rfl ?_
        refine ml_if2 (S1 := (442, [], [], M)) (S2 := (414, [(0, .ref a)], [], M)) rfl rfl rfl (fun c_411 => ?_) (fun c_411 => ?_)
        · have c_411 : u66 < 1 := of_decide_eq_true c_411
          refine ml_st (S' := (443, [], [.int 0], M)) rfl rfl rfl ?_
          exact ml_ret rfl (r_z (Or.inl rfl)) (⟨⟨_, rfl, Or.inl rfl⟩, rfl⟩)
        · have c_411 : ¬ (u66 < 1) := of_decide_eq_false c_411
          refine ml_st (S' := (415, [(0, .ref a)], [.ref a], M)) rfl rfl rfl ?_
          refine tg_ref (S' := (418, [(0, .ref a)], [.ref o], M)) rfl hS.1 hY0 (by decide) rfl rfl ?_
          refine ml_get (S' := (421, [(0, .ref a)], [.int u66], M)) rfl g67 rfl ?_
          refine ml_st (S' := (422, [(0, .ref a)], [.ref a, .int u66], M)) rfl rfl rfl ?_
          refine tg_ref (S' := (425, [(0, .ref a)], [.ref p, .int u66], M)) rfl hS.1 hY0 (by decide) rfl rfl ?_
          refine ml_st (S' := (426, [(0, .ref a)], [.ref a, .ref p, .int u66], M)) rfl rfl rfl ?_
          refine tg_ref (S' := (429, [(0, .ref a)], [.ref o, .ref p, .int u66], M)) rfl hS.1 hY0 (by decide) rfl rfl ?_
          refine ml_get (S' := (432, [(0, .ref a)], [.int u60, .ref p, .int u66], M)) rfl g61 rfl ?_
          refine ml_call (a := [.ref p, .int u60]) (rest := [.int u66]) rfl (okc_t rfl rfl rfl hS.1 hY1 (by decide)) rfl rfl (tq_dimensionsOf hS.1 hY1 (by omega)) (fun v68 M69 h70 => ?_)
          obtain ⟨⟨u71, rfl⟩, h70⟩ := h70
          rw [h70]
          show ml _ _ _ (435, [(0, .ref a)], [.int u71, .int u66], M) _
          refine ml_if2 (S1 := (442, [], [], M)) (S2 := (438, [(0, .ref a)], [], M)) rfl rfl rfl (fun c_435 => ?_) (fun c_435 => ?_)
          · have c_435 : u71 < u66 := of_decide_eq_true c_435
            refine ml_st (S' := (443, [], [.int 0], M)) rfl rfl rfl ?_
            exact ml_ret rfl (r_z (Or.inl rfl)) (⟨⟨_, rfl, Or.inl rfl⟩, rfl⟩)
          · have c_435 : ¬ (u71 < u66) := of_decide_eq_false c_435
            refine ml_st (S' := (439, [(0, .ref a)], [.int 1], M)) rfl rfl rfl ?_
            refine ml_st (S' := (443, [], [.int 1], M)) rfl rfl rfl ?_
            exact ml_ret rfl (r_z (Or.inr rfl)) (⟨⟨_, rfl, Or.inr rfl⟩, rfl⟩)
    · show ml _ _ _ (444, [(0, .ref a)], [], M) _
      refine ml_blk 2 (S' := (446, [(0, .ref a)], [.ref a, .ref a], M)) rfl ?_
      refine tg_ref (S' := (449, [(0, .ref a)], [.ref p, .ref a], M)) rfl hS.1 hY0 (by decide) rfl rfl ?_
      refine ml_st (S' := (450, [(0, .ref a)], [.ref a, .ref p, .ref a], M)) rfl rfl rfl ?_
      refine tg_ref (S' := (453, [(0, .ref a)], [.ref o, .ref p, .ref a], M)) rfl hS.1 hY0 (by decide) rfl rfl ?_
      refine tg_int rfl hS.1 hY2 (by decide) rfl (fun u72 g73 => ?_)
      show ml _ _ _ (456, [(0, .ref a)], [.int u72, .ref p, .ref a], M) _
      refine ml_call (a := [.ref p, .int u72]) (rest := [.ref a]) rfl (okc_t rfl rfl rfl hS.1 hY1 (by decide)) rfl rfl (tq_tagOf hS.1 hY1 (by omega)) (fun v74 M75 h76 => ?_)
      obtain ⟨⟨u77, rfl⟩, h76⟩ := h76
      rw [h76]
      show ml _ _ _ (459, [(0, .ref a)], [.int u77, .ref a], M) _
      refine ml_call (a := [.ref a, .int u77]) (rest := []) rfl (okc_t rfl rfl rfl hS.1 hY0 (by decide)) rfl rfl (tw_Co_callHolds hS.1 hY0 hY1 hY2 hY3 (by omega)) (fun v78 M79 h80 => ?_)
      obtain ⟨⟨u81, rfl, z82⟩, h80⟩ := h80
      rw [h80]
      show ml _ _ _ (462, [(0, .ref a)], [.int u81], M) _
      exact ml_ret rfl (r_z (z82)) (⟨⟨_, rfl, z82⟩, rfl⟩)
  · have c_7 : ¬ (u1 ≤ 0) := of_decide_eq_false c_7
    refine ml_st (S' := (11, [(0, .ref a)], [.ref a], M)) rfl rfl rfl ?_
    refine tg_ref (S' := (14, [(0, .ref a)], [.ref o], M)) rfl hS.1 hY0 (by decide) rfl rfl ?_
    refine tg_int rfl hS.1 hY2 (by decide) rfl (fun u83 g84 => ?_)
    show ml _ _ _ (17, [(0, .ref a)], [.int u83], M) _
    refine ml_st (S' := (20, [(0, .ref a)], [.int 169, .int u83], M)) rfl rfl rfl ?_
    have J_37 : ∀ (s37_0 : Int32), ml (mT g) d (mb_82 g).2 (37, [(0, .ref a)], [.int s37_0], M) (pZ M) := by
      intro s37_0
      refine ml_st (S' := (38, [(1, .int s37_0), (0, .ref a)], [], M)) rfl rfl rfl ?_
      refine ml_st (S' := (39, [(1, .int s37_0), (0, .ref a)], [.int s37_0], M)) rfl rfl rfl ?_
      refine ml_if (S1 := (68, [], [], M)) (S2 := (42, [(1, .int s37_0), (0, .ref a)], [], M)) rfl rfl rfl (fun c_39 => ?_) (fun c_39 => ?_)
      · have c_39 : ¬ s37_0 = 0 := of_decide_eq_true c_39
        refine ml_st (S' := (69, [], [.int 0], M)) rfl rfl rfl ?_
        exact ml_ret rfl (r_z (Or.inl rfl)) (⟨⟨_, rfl, Or.inl rfl⟩, rfl⟩)
      · have c_39 : ¬ (¬ s37_0 = 0) := of_decide_eq_false c_39
        refine ml_st (S' := (43, [(1, .int s37_0), (0, .ref a)], [.ref a], M)) rfl rfl rfl ?_
        refine tg_ref (S' := (46, [(1, .int s37_0), (0, .ref a)], [.ref o], M)) rfl hS.1 hY0 (by decide) rfl rfl ?_
        refine tg_int rfl hS.1 hY2 (by decide) rfl (fun u85 g86 => ?_)
        show ml _ _ _ (49, [(1, .int s37_0), (0, .ref a)], [.int u85], M) _
        refine ml_st (S' := (50, [(1, .int s37_0), (0, .ref a)], [.ref a, .int u85], M)) rfl rfl rfl ?_
        refine tg_ref (S' := (53, [(1, .int s37_0), (0, .ref a)], [.ref o, .int u85], M)) rfl hS.1 hY0 (by decide) rfl rfl ?_
        refine ml_get (S' := (56, [(1, .int s37_0), (0, .ref a)], [.int u1, .int u85], M)) rfl g2 rfl ?_
        refine ml_blk 2 (S' := (58, [(1, .int s37_0), (0, .ref a)], [.ref a, .int (u85 + u1)], M)) rfl ?_
        refine tg_int rfl hS.1 hY0 (by decide) rfl (fun u87 g88 => ?_)
        show ml _ _ _ (61, [(1, .int s37_0), (0, .ref a)], [.int u87, .int (u85 + u1)], M) _
        refine ml_if2 (S1 := (68, [], [], M)) (S2 := (64, [(1, .int s37_0), (0, .ref a)], [], M)) rfl rfl rfl (fun c_61 => ?_) (fun c_61 => ?_)
        · have c_61 : u87 < (u85 + u1) := of_decide_eq_true c_61
          refine ml_st (S' := (69, [], [.int 0], M)) rfl rfl rfl ?_
          exact ml_ret rfl (r_z (Or.inl rfl)) (⟨⟨_, rfl, Or.inl rfl⟩, rfl⟩)
        · have c_61 : ¬ (u87 < (u85 + u1)) := of_decide_eq_false c_61
          refine ml_st (S' := (65, [(1, .int s37_0), (0, .ref a)], [.int 1], M)) rfl rfl rfl ?_
          refine ml_st (S' := (69, [], [.int 1], M)) rfl rfl rfl ?_
          exact ml_ret rfl (r_z (Or.inr rfl)) (⟨⟨_, rfl, Or.inr rfl⟩, rfl⟩)
    have J_36 : ml (mT g) d (mb_82 g).2 (36, [(0, .ref a)], [], M) (pZ M) := by
      refine ml_st (S' := (37, [(0, .ref a)], [.int 0], M)) rfl rfl rfl ?_
      exact J_37 0
    refine ml_if2 (S1 := (36, [(0, .ref a)], [], M)) (S2 := (23, [(0, .ref a)], [], M)) rfl rfl rfl (fun c_20 => ?_) (fun c_20 => ?_)
    · have c_20 : ¬ u83 = 169 := of_decide_eq_true c_20
      exact J_36 
    · have c_20 : ¬ (¬ u83 = 169) := of_decide_eq_false c_20
      refine ml_st (S' := (24, [(0, .ref a)], [.ref a], M)) rfl rfl rfl ?_
      refine tg_int rfl hS.1 hY0 (by decide) rfl (fun u89 g90 => ?_)
      show ml _ _ _ (27, [(0, .ref a)], [.int u89], M) _
      refine ml_st (S' := (29, [(0, .ref a)], [.int 51, .int u89], M)) rfl rfl rfl ?_
      refine ml_if2 (S1 := (36, [(0, .ref a)], [], M)) (S2 := (32, [(0, .ref a)], [], M)) rfl rfl rfl (fun c_29 => ?_) (fun c_29 => ?_)
      · have c_29 : u89 < 51 := of_decide_eq_true c_29
        exact J_36 
      · have c_29 : ¬ (u89 < 51) := of_decide_eq_false c_29
        refine ml_st (S' := (33, [(0, .ref a)], [.int 1], M)) rfl rfl rfl ?_
        refine ml_st (S' := (37, [(0, .ref a)], [.int 1], M)) rfl rfl rfl ?_
        exact J_37 1
set_option maxHeartbeats 2000000 in
theorem tw_Co_startOf {g : xe_G} {M : mi_H} {Y : yT} {a p o k b da n : Nat} {pp : List Nat} {x1 : Int32}  (hW : WF g Y M) (hY0 : Y.1 a = some (4, [p, o, k])) (hY1 : Y.1 p = some (7, pp)) (hY2 : Y.1 o = some (5, [b, k])) (hY3 : Y.1 b = some (1, [da, n])) {d : Nat} (hd : 1 ≤ d) : mt (mT g) d 83 [.ref a, .int x1] M (pI M) := by
  obtain ⟨d, rfl⟩ : ∃ e, d = e + 1 := ⟨d - 1, by omega⟩
  have hS : st g Y M M := st.rf hW
  refine mt_in (b := mb_83 g) rfl rfl ?_
  show ml (mT g) d (mb_83 g).2 (0, [(0, .ref a), (1, .int x1)], [], M) _
  refine ml_st (S' := (1, [(0, .ref a), (1, .int x1)], [.ref a], M)) rfl rfl rfl ?_
  refine tg_vn rfl hS.1 hY0 (by decide) rfl (fun g3 => ?_) (fun b1 g3 h2 => ?_)
  · show ml _ _ _ (4, [(0, .ref a), (1, .int x1)], [.null], M) _
    refine ml_st (S' := (20, [], [], M)) rfl rfl rfl ?_
    refine ml_st (S' := (21, [], [.int 0], M)) rfl rfl rfl ?_
    refine ml_st (S' := (30, [], [.int 0], M)) rfl rfl rfl ?_
    exact ml_ret rfl (rfl) (⟨⟨_, rfl⟩, rfl⟩)
  · skip
    obtain ⟨k4, h2⟩ := h2
    show ml _ _ _ (4, [(0, .ref a), (1, .int x1)], [.ref b1], M) _
    refine ml_st (S' := (7, [(0, .ref a), (1, .int x1)], [], M)) rfl rfl rfl ?_
    refine ml_st (S' := (8, [(0, .ref a), (1, .int x1)], [.int x1], M)) rfl rfl rfl ?_
    refine ml_if (S1 := (20, [], [], M)) (S2 := (11, [(0, .ref a), (1, .int x1)], [], M)) rfl rfl rfl (fun c_8 => ?_) (fun c_8 => ?_)
    · have c_8 : x1 < 0 := of_decide_eq_true c_8
      refine ml_st (S' := (21, [], [.int 0], M)) rfl rfl rfl ?_
      refine ml_st (S' := (30, [], [.int 0], M)) rfl rfl rfl ?_
      exact ml_ret rfl (rfl) (⟨⟨_, rfl⟩, rfl⟩)
    · have c_8 : ¬ (x1 < 0) := of_decide_eq_false c_8
      refine ml_blk 2 (S' := (13, [(0, .ref a), (1, .int x1)], [.ref a, .int x1], M)) rfl ?_
      refine ml_get (S' := (16, [(0, .ref a), (1, .int x1)], [.ref b1, .int x1], M)) rfl g3 rfl ?_
      refine tl_row (k := 21) (ty := .int) (S' := (17, [(0, .ref a), (1, .int x1)], [.int (nI k4), .int x1], M)) rfl hS.1 h2 rfl rfl ?_
      refine ml_if2 (S1 := (24, [(0, .ref a), (1, .int x1)], [], M)) (S2 := (20, [], [], M)) rfl rfl rfl (fun c_17 => ?_) (fun c_17 => ?_)
      · have c_17 : x1 < (nI k4) := of_decide_eq_true c_17
        refine ml_st (S' := (25, [(0, .ref a), (1, .int x1)], [.ref a], M)) rfl rfl rfl ?_
        refine ml_get (S' := (28, [(0, .ref a), (1, .int x1)], [.ref b1], M)) rfl g3 rfl ?_
        refine ml_st (S' := (29, [(0, .ref a), (1, .int x1)], [.int x1, .ref b1], M)) rfl rfl rfl ?_
        refine ta_int rfl hS.1 h2 (vin_of c_8 c_17) (fun u5 => ?_)
        show ml _ _ _ (30, [], [.int u5], M) _
        exact ml_ret rfl (rfl) (⟨⟨_, rfl⟩, rfl⟩)
      · have c_17 : ¬ (x1 < (nI k4)) := of_decide_eq_false c_17
        refine ml_st (S' := (21, [], [.int 0], M)) rfl rfl rfl ?_
        refine ml_st (S' := (30, [], [.int 0], M)) rfl rfl rfl ?_
        exact ml_ret rfl (rfl) (⟨⟨_, rfl⟩, rfl⟩)
set_option maxHeartbeats 2000000 in
theorem tw_Co_numberAt {g : xe_G} {M : mi_H} {Y : yT} {a p o k b da n : Nat} {pp : List Nat} {x1 : Int64}  (hW : WF g Y M) (hY0 : Y.1 a = some (4, [p, o, k])) (hY1 : Y.1 p = some (7, pp)) (hY2 : Y.1 o = some (5, [b, k])) (hY3 : Y.1 b = some (1, [da, n])) {d : Nat} (hd : 1 ≤ d) : mt (mT g) d 81 [.ref a, .long x1] M (pI M) := by
  obtain ⟨d, rfl⟩ : ∃ e, d = e + 1 := ⟨d - 1, by omega⟩
  have hS : st g Y M M := st.rf hW
  refine mt_in (b := mb_81 g) rfl rfl ?_
  show ml (mT g) d (mb_81 g).2 (0, [(0, .ref a), (1, .long x1)], [], M) _
  refine ml_st (S' := (1, [(0, .ref a), (1, .long x1)], [.ref a], M)) rfl rfl rfl ?_
  refine tg_vn rfl hS.1 hY0 (by decide) rfl (fun g3 => ?_) (fun b1 g3 h2 => ?_)
  · show ml _ _ _ (4, [(0, .ref a), (1, .long x1)], [.null], M) _
    refine ml_st (S' := (24, [], [], M)) rfl rfl rfl ?_
    refine ml_st (S' := (25, [], [.int (-1)], M)) rfl rfl rfl ?_
    refine ml_st (S' := (37, [], [.int (-1)], M)) rfl rfl rfl ?_
    exact ml_ret rfl (rfl) (⟨⟨_, rfl⟩, rfl⟩)
  · skip
    obtain ⟨k4, h2⟩ := h2
    show ml _ _ _ (4, [(0, .ref a), (1, .long x1)], [.ref b1], M) _
    refine ml_st (S' := (7, [(0, .ref a), (1, .long x1)], [], M)) rfl rfl rfl ?_
    refine ml_blk 3 (S' := (10, [(0, .ref a), (1, .long x1)], [.int (lg_cmp x1 0)], M)) rfl ?_
    refine ml_if (S1 := (24, [], [], M)) (S2 := (13, [(0, .ref a), (1, .long x1)], [], M)) rfl rfl rfl (fun c_10 => ?_) (fun c_10 => ?_)
    · have c_10 : (lg_cmp x1 0) < 0 := of_decide_eq_true c_10
      refine ml_st (S' := (25, [], [.int (-1)], M)) rfl rfl rfl ?_
      refine ml_st (S' := (37, [], [.int (-1)], M)) rfl rfl rfl ?_
      exact ml_ret rfl (rfl) (⟨⟨_, rfl⟩, rfl⟩)
    · have c_10 : ¬ ((lg_cmp x1 0) < 0) := of_decide_eq_false c_10
      refine ml_blk 2 (S' := (15, [(0, .ref a), (1, .long x1)], [.ref a, .long x1], M)) rfl ?_
      refine ml_get (S' := (18, [(0, .ref a), (1, .long x1)], [.ref b1, .long x1], M)) rfl g3 rfl ?_
      refine tl_row (k := 21) (ty := .int) (S' := (19, [(0, .ref a), (1, .long x1)], [.int (nI k4), .long x1], M)) rfl hS.1 h2 rfl rfl ?_
      refine ml_blk 2 (S' := (21, [(0, .ref a), (1, .long x1)], [.int (lg_cmp x1 (Int32.toInt64 (nI k4)))], M)) rfl ?_
      refine ml_if (S1 := (28, [(0, .ref a), (1, .long x1)], [], M)) (S2 := (24, [], [], M)) rfl rfl rfl (fun c_21 => ?_) (fun c_21 => ?_)
      · have c_21 : (lg_cmp x1 (Int32.toInt64 (nI k4))) < 0 := of_decide_eq_true c_21
        refine ml_st (S' := (29, [(0, .ref a), (1, .long x1)], [.ref a], M)) rfl rfl rfl ?_
        refine ml_get (S' := (32, [(0, .ref a), (1, .long x1)], [.ref b1], M)) rfl g3 rfl ?_
        refine ml_blk 2 (S' := (34, [(0, .ref a), (1, .long x1)], [.int (Int64.toInt32 x1), .ref b1], M)) rfl ?_
        refine ta_int rfl hS.1 h2 (lc_in (hS.1.rlen h2 rfl) c_10 c_21) (fun u5 => ?_)
        show ml _ _ _ (35, [(0, .ref a), (1, .long x1)], [.int u5], M) _
        refine ml_blk 2 (S' := (37, [], [.int (u5 - 1)], M)) rfl ?_
        exact ml_ret rfl (rfl) (⟨⟨_, rfl⟩, rfl⟩)
      · have c_21 : ¬ ((lg_cmp x1 (Int32.toInt64 (nI k4))) < 0) := of_decide_eq_false c_21
        refine ml_st (S' := (25, [], [.int (-1)], M)) rfl rfl rfl ?_
        refine ml_st (S' := (37, [], [.int (-1)], M)) rfl rfl rfl ?_
        exact ml_ret rfl (rfl) (⟨⟨_, rfl⟩, rfl⟩)
set_option maxHeartbeats 2000000 in
theorem tw_Co_targetsHold {g : xe_G} {M : mi_H} {Y : yT} {a p o k b da n : Nat} {pp : List Nat}  (hW : WF g Y M) (hY0 : Y.1 a = some (4, [p, o, k])) (hY1 : Y.1 p = some (7, pp)) (hY2 : Y.1 o = some (5, [b, k])) (hY3 : Y.1 b = some (1, [da, n])) {d : Nat} (hd : 4 ≤ d) : mt (mT g) d 85 [.ref a] M (pZ M) := by
  obtain ⟨d, rfl⟩ : ∃ e, d = e + 1 := ⟨d - 1, by omega⟩
  have hS : st g Y M M := st.rf hW
  refine mt_in (b := mb_85 g) rfl rfl ?_
  show ml (mT g) d (mb_85 g).2 (0, [(0, .ref a)], [], M) _
  refine ml_st (S' := (1, [(0, .ref a)], [.int 0], M)) rfl rfl rfl ?_
  refine ml_st (S' := (2, [(0, .ref a), (1, .int 0)], [], M)) rfl rfl rfl ?_
  have L_2 : ∀ (n_2 : Nat) (i2_1 : Int32), (2147483648 - i2_1.toInt).toNat ≤ n_2 → ml (mT g) d (mb_85 g).2 (2, [(0, .ref a), (1, .int i2_1)], [], M) (pZ M) := by
    intro n_2
    induction n_2 with
    | zero => intro i2_1 hn; exact (loop_zero hn).elim
    | succ n_2 ih_2 =>
      intro i2_1 hn_2
      refine ml_blk 2 (S' := (4, [(0, .ref a), (1, .int i2_1)], [.ref a, .int i2_1], M)) rfl ?_
      refine tg_ref (S' := (7, [(0, .ref a), (1, .int i2_1)], [.ref o, .int i2_1], M)) rfl hS.1 hY0 (by decide) rfl rfl ?_
      refine tg_int rfl hS.1 hY2 (by decide) rfl (fun u1 g2 => ?_)
      show ml _ _ _ (10, [(0, .ref a), (1, .int i2_1)], [.int u1, .int i2_1], M) _
      refine ml_if2 (S1 := (36, [(0, .ref a), (1, .int i2_1)], [], M)) (S2 := (13, [(0, .ref a), (1, .int i2_1)], [], M)) rfl rfl rfl (fun c_10 => ?_) (fun c_10 => ?_)
      · have c_10 : u1 ≤ i2_1 := of_decide_eq_true c_10
        refine ml_st (S' := (37, [(0, .ref a), (1, .int i2_1)], [.int 1], M)) rfl rfl rfl ?_
        exact ml_ret rfl (r_z (Or.inr rfl)) (⟨⟨_, rfl, Or.inr rfl⟩, rfl⟩)
      · have c_10 : ¬ (u1 ≤ i2_1) := of_decide_eq_false c_10
        refine ml_blk 2 (S' := (15, [(0, .ref a), (1, .int i2_1)], [.ref a, .ref a], M)) rfl ?_
        refine tg_ref (S' := (18, [(0, .ref a), (1, .int i2_1)], [.ref o, .ref a], M)) rfl hS.1 hY0 (by decide) rfl rfl ?_
        refine ml_st (S' := (19, [(0, .ref a), (1, .int i2_1)], [.int i2_1, .ref o, .ref a], M)) rfl rfl rfl ?_
        refine ml_call (a := [.ref o, .int i2_1]) (rest := [.ref a]) rfl (okc_t rfl rfl rfl hS.1 hY2 (by decide)) rfl rfl (ti_target hS.1 hY2 hY3 (by omega)) (fun v3 M4 h5 => ?_)
        obtain ⟨⟨u6, rfl⟩, h5⟩ := h5
        rw [h5]
        show ml _ _ _ (22, [(0, .ref a), (1, .int i2_1)], [.long u6, .ref a], M) _
        refine ml_call (a := [.ref a, .long u6]) (rest := []) rfl (okc_t rfl rfl rfl hS.1 hY0 (by decide)) rfl rfl (tw_Co_numberAt hS.1 hY0 hY1 hY2 hY3 (by omega)) (fun v7 M8 h9 => ?_)
        obtain ⟨⟨u10, rfl⟩, h9⟩ := h9
        rw [h9]
        show ml _ _ _ (25, [(0, .ref a), (1, .int i2_1)], [.int u10], M) _
        refine ml_if (S1 := (30, [(0, .ref a), (1, .int i2_1)], [], M)) (S2 := (28, [(0, .ref a), (1, .int i2_1)], [], M)) rfl rfl rfl (fun c_25 => ?_) (fun c_25 => ?_)
        · have c_25 : 0 ≤ u10 := of_decide_eq_true c_25
          refine ml_st (S' := (33, [(1, .int (i2_1 + 1)), (0, .ref a)], [], M)) rfl rfl rfl ?_
          refine ml_st (S' := (2, [(0, .ref a), (1, .int (i2_1 + 1))], [], M)) rfl rfl rfl ?_
          exact ih_2 (i2_1 + 1) (loop_inc (Int32.not_le.mp c_10) hn_2) 
        · have c_25 : ¬ (0 ≤ u10) := of_decide_eq_false c_25
          refine ml_st (S' := (29, [(0, .ref a), (1, .int i2_1)], [.int 0], M)) rfl rfl rfl ?_
          exact ml_ret rfl (r_z (Or.inl rfl)) (⟨⟨_, rfl, Or.inl rfl⟩, rfl⟩)
  exact L_2 _ 0 (Nat.le_refl _) 
set_option maxHeartbeats 2000000 in
theorem tw_Co_number {g : xe_G} {M : mi_H} {Y : yT} {a p o k b da n : Nat} {pp : List Nat} {x1 x2 : Int32}  (hW : WF g Y M) (hY0 : Y.1 a = some (4, [p, o, k])) (hY1 : Y.1 p = some (7, pp)) (hY2 : Y.1 o = some (5, [b, k])) (hY3 : Y.1 b = some (1, [da, n])) {d : Nat} (hd : 7 ≤ d) : mt (mT g) d 80 [.ref a, .int x1, .int x2] M (qI g Y M) := by
  obtain ⟨d, rfl⟩ : ∃ e, d = e + 1 := ⟨d - 1, by omega⟩
  have hS : st g Y M M := st.rf hW
  refine mt_in (b := mb_80 g) rfl rfl ?_
  show ml (mT g) d (mb_80 g).2 (0, [(0, .ref a), (1, .int x1), (2, .int x2)], [], M) _
  refine ml_blk 2 (S' := (2, [(0, .ref a), (1, .int x1), (2, .int x2)], [.int x1, .ref a], M)) rfl ?_
  refine ml_call (a := [.ref a, .int x1]) (rest := []) rfl (okc_t rfl rfl rfl hS.1 hY0 (by decide)) rfl rfl (tw_Co_startOf hS.1 hY0 hY1 hY2 hY3 (by omega)) (fun v1 M2 h3 => ?_)
  obtain ⟨⟨u4, rfl⟩, h3⟩ := h3
  rw [h3]
  show ml _ _ _ (5, [(0, .ref a), (1, .int x1), (2, .int x2)], [.int u4], M) _
  refine ml_st (S' := (6, [(3, .int u4), (0, .ref a), (1, .int x1), (2, .int x2)], [], M)) rfl rfl rfl ?_
  refine ml_st (S' := (7, [(3, .int u4), (0, .ref a), (1, .int x1), (2, .int x2)], [.ref a], M)) rfl rfl rfl ?_
  refine tg_ref (S' := (10, [(3, .int u4), (0, .ref a), (1, .int x1), (2, .int x2)], [.ref o], M)) rfl hS.1 hY0 (by decide) rfl rfl ?_
  refine ml_st (S' := (11, [(3, .int u4), (0, .ref a), (1, .int x1), (2, .int x2)], [.int u4, .ref o], M)) rfl rfl rfl ?_
  refine ml_call (a := [.ref o, .int u4]) (rest := []) rfl (okc_t rfl rfl rfl hS.1 hY2 (by decide)) rfl rfl (ti_isTakenApart hS.1 hY2 hY3 (by omega)) (fun v5 M6 h7 => ?_)
  obtain ⟨⟨u8, rfl, z9⟩, h7⟩ := h7
  have hS10 := hS.tr h7.1
  show ml _ _ _ (14, [(3, .int u4), (0, .ref a), (1, .int x1), (2, .int x2)], [.int u8], M6) _
  refine ml_if (S1 := (19, [(3, .int u4), (0, .ref a), (1, .int x1), (2, .int x2)], [], M6)) (S2 := (17, [(3, .int u4), (0, .ref a), (1, .int x1), (2, .int x2)], [], M6)) rfl rfl rfl (fun c_14 => ?_) (fun c_14 => ?_)
  · have c_14 : ¬ u8 = 0 := of_decide_eq_true c_14
    refine ml_st (S' := (20, [(3, .int u4), (0, .ref a), (1, .int x1), (2, .int x2)], [.int x2], M6)) rfl rfl rfl ?_
    refine ml_sw rfl (fun t_20 ht_20 => ?_)
    have kt_20 := ht_20
    have ht_20 : t_20 ∈ [52, 60, 62, 95, 103] := mi_sw_sub ht_20 (by decide)
    simp only [List.mem_cons, List.not_mem_nil, or_false] at ht_20
    rcases ht_20 with rfl | rfl | rfl | rfl | rfl
    · show ml _ _ _ (52, [(3, .int u4), (0, .ref a), (1, .int x1), (2, .int x2)], [], M6) _
      refine ml_st (S' := (53, [(3, .int u4), (0, .ref a), (1, .int x1), (2, .int x2)], [.ref a], M6)) rfl rfl rfl ?_
      refine tg_ref (S' := (56, [(3, .int u4), (0, .ref a), (1, .int x1), (2, .int x2)], [.ref o], M6)) rfl hS10.1 hY0 (by decide) rfl rfl ?_
      refine tg_int rfl hS10.1 hY2 (by decide) rfl (fun u11 g12 => ?_)
      show ml _ _ _ (59, [(3, .int u4), (0, .ref a), (1, .int x1), (2, .int x2)], [.int u11], M6) _
      exact ml_ret rfl (rfl) (⟨⟨_, rfl⟩, hS10⟩)
    · show ml _ _ _ (60, [(3, .int u4), (0, .ref a), (1, .int x1), (2, .int x2)], [], M6) _
      refine ml_st (S' := (61, [(3, .int u4), (0, .ref a), (1, .int x1), (2, .int x2)], [.int u4], M6)) rfl rfl rfl ?_
      exact ml_ret rfl (rfl) (⟨⟨_, rfl⟩, hS10⟩)
    · show ml _ _ _ (62, [(3, .int u4), (0, .ref a), (1, .int x1), (2, .int x2)], [], M6) _
      refine ml_st (S' := (63, [(3, .int u4), (0, .ref a), (1, .int x1), (2, .int x2)], [.ref a], M6)) rfl rfl rfl ?_
      refine tg_ref (S' := (66, [(3, .int u4), (0, .ref a), (1, .int x1), (2, .int x2)], [.ref o], M6)) rfl hS10.1 hY0 (by decide) rfl rfl ?_
      refine ml_call (a := [.ref o]) (rest := []) rfl (okc_t rfl rfl rfl hS10.1 hY2 (by decide)) rfl rfl (ti_isJump hS10.1 hY2 hY3 (by omega)) (fun v13 M14 h15 => ?_)
      obtain ⟨⟨u16, rfl, z17⟩, h15⟩ := h15
      rw [h15]
      show ml _ _ _ (69, [(3, .int u4), (0, .ref a), (1, .int x1), (2, .int x2)], [.int u16], M6) _
      refine ml_if (S1 := (87, [(3, .int u4), (0, .ref a), (1, .int x1), (2, .int x2)], [], M6)) (S2 := (72, [(3, .int u4), (0, .ref a), (1, .int x1), (2, .int x2)], [], M6)) rfl rfl rfl (fun c_69 => ?_) (fun c_69 => ?_)
      · have c_69 : u16 = 0 := of_decide_eq_true c_69
        refine ml_st (S' := (88, [(3, .int u4), (0, .ref a), (1, .int x1), (2, .int x2)], [.ref a], M6)) rfl rfl rfl ?_
        refine tg_ref (S' := (91, [(3, .int u4), (0, .ref a), (1, .int x1), (2, .int x2)], [.ref o], M6)) rfl hS10.1 hY0 (by decide) rfl rfl ?_
        refine tg_int rfl hS10.1 hY2 (by decide) rfl (fun u18 g19 => ?_)
        show ml _ _ _ (94, [], [.int u18], M6) _
        exact ml_ret rfl (rfl) (⟨⟨_, rfl⟩, hS10⟩)
      · have c_69 : ¬ (u16 = 0) := of_decide_eq_false c_69
        refine ml_blk 2 (S' := (74, [(3, .int u4), (0, .ref a), (1, .int x1), (2, .int x2)], [.ref a, .ref a], M6)) rfl ?_
        refine tg_ref (S' := (77, [(3, .int u4), (0, .ref a), (1, .int x1), (2, .int x2)], [.ref o, .ref a], M6)) rfl hS10.1 hY0 (by decide) rfl rfl ?_
        refine ml_st (S' := (78, [(3, .int u4), (0, .ref a), (1, .int x1), (2, .int x2)], [.int 0, .ref o, .ref a], M6)) rfl rfl rfl ?_
        refine ml_call (a := [.ref o, .int 0]) (rest := [.ref a]) rfl (okc_t rfl rfl rfl hS10.1 hY2 (by decide)) rfl rfl (ti_target hS10.1 hY2 hY3 (by omega)) (fun v20 M21 h22 => ?_)
        obtain ⟨⟨u23, rfl⟩, h22⟩ := h22
        rw [h22]
        show ml _ _ _ (81, [(3, .int u4), (0, .ref a), (1, .int x1), (2, .int x2)], [.long u23, .ref a], M6) _
        refine ml_call (a := [.ref a, .long u23]) (rest := []) rfl (okc_t rfl rfl rfl hS10.1 hY0 (by decide)) rfl rfl (tw_Co_numberAt hS10.1 hY0 hY1 hY2 hY3 (by omega)) (fun v24 M25 h26 => ?_)
        obtain ⟨⟨u27, rfl⟩, h26⟩ := h26
        rw [h26]
        show ml _ _ _ (84, [(3, .int u4), (0, .ref a), (1, .int x1), (2, .int x2)], [.int u27], M6) _
        refine ml_st (S' := (94, [], [.int u27], M6)) rfl rfl rfl ?_
        exact ml_ret rfl (rfl) (⟨⟨_, rfl⟩, hS10⟩)
    · show ml _ _ _ (95, [(3, .int u4), (0, .ref a), (1, .int x1), (2, .int x2)], [], M6) _
      refine ml_st (S' := (96, [(3, .int u4), (0, .ref a), (1, .int x1), (2, .int x2)], [.ref a], M6)) rfl rfl rfl ?_
      refine tg_ref (S' := (99, [(3, .int u4), (0, .ref a), (1, .int x1), (2, .int x2)], [.ref o], M6)) rfl hS10.1 hY0 (by decide) rfl rfl ?_
      refine tg_int rfl hS10.1 hY2 (by decide) rfl (fun u28 g29 => ?_)
      show ml _ _ _ (102, [(3, .int u4), (0, .ref a), (1, .int x1), (2, .int x2)], [.int u28], M6) _
      exact ml_ret rfl (rfl) (⟨⟨_, rfl⟩, hS10⟩)
    · show ml _ _ _ (103, [(3, .int u4), (0, .ref a), (1, .int x1), (2, .int x2)], [], M6) _
      refine ml_st (S' := (104, [(3, .int u4), (0, .ref a), (1, .int x1), (2, .int x2)], [.ref a], M6)) rfl rfl rfl ?_
      refine tg_ref (S' := (107, [(3, .int u4), (0, .ref a), (1, .int x1), (2, .int x2)], [.ref o], M6)) rfl hS10.1 hY0 (by decide) rfl rfl ?_
      refine ml_call (a := [.ref o]) (rest := []) rfl (okc_t rfl rfl rfl hS10.1 hY2 (by decide)) rfl rfl (ti_isSwitch hS10.1 hY2 hY3 (by omega)) (fun v30 M31 h32 => ?_)
      obtain ⟨⟨u33, rfl, z34⟩, h32⟩ := h32
      rw [h32]
      show ml _ _ _ (110, [(3, .int u4), (0, .ref a), (1, .int x1), (2, .int x2)], [.int u33], M6) _
      refine ml_if (S1 := (123, [(3, .int u4), (0, .ref a), (1, .int x1), (2, .int x2)], [], M6)) (S2 := (113, [(3, .int u4), (0, .ref a), (1, .int x1), (2, .int x2)], [], M6)) rfl rfl rfl (fun c_110 => ?_) (fun c_110 => ?_)
      · have c_110 : u33 = 0 := of_decide_eq_true c_110
        refine ml_st (S' := (124, [], [.int 0], M6)) rfl rfl rfl ?_
        exact ml_ret rfl (rfl) (⟨⟨_, rfl⟩, hS10⟩)
      · have c_110 : ¬ (u33 = 0) := of_decide_eq_false c_110
        refine ml_st (S' := (114, [(3, .int u4), (0, .ref a), (1, .int x1), (2, .int x2)], [.ref a], M6)) rfl rfl rfl ?_
        refine tg_ref (S' := (117, [(3, .int u4), (0, .ref a), (1, .int x1), (2, .int x2)], [.ref o], M6)) rfl hS10.1 hY0 (by decide) rfl rfl ?_
        refine tg_int rfl hS10.1 hY2 (by decide) rfl (fun u35 g36 => ?_)
        show ml _ _ _ (120, [(3, .int u4), (0, .ref a), (1, .int x1), (2, .int x2)], [.int u35], M6) _
        refine ml_st (S' := (124, [], [.int u35], M6)) rfl rfl rfl ?_
        exact ml_ret rfl (rfl) (⟨⟨_, rfl⟩, hS10⟩)
  · have c_14 : ¬ (¬ u8 = 0) := of_decide_eq_false c_14
    refine ml_st (S' := (18, [(3, .int u4), (0, .ref a), (1, .int x1), (2, .int x2)], [.int (-1)], M6)) rfl rfl rfl ?_
    exact ml_ret rfl (rfl) (⟨⟨_, rfl⟩, hS10⟩)
set_option maxHeartbeats 2000000 in
theorem tw_Co_switchPlace {g : xe_G} {M : mi_H} {Y : yT} {a p o k b da n : Nat} {pp : List Nat} {x1 x2 x3 : Int32}  (hW : WF g Y M) (hY0 : Y.1 a = some (4, [p, o, k])) (hY1 : Y.1 p = some (7, pp)) (hY2 : Y.1 o = some (5, [b, k])) (hY3 : Y.1 b = some (1, [da, n])) {d : Nat} (hd : 7 ≤ d) : mt (mT g) d 84 [.ref a, .int x1, .int x2, .int x3] M (qI g Y M) := by
  obtain ⟨d, rfl⟩ : ∃ e, d = e + 1 := ⟨d - 1, by omega⟩
  have hS : st g Y M M := st.rf hW
  refine mt_in (b := mb_84 g) rfl rfl ?_
  show ml (mT g) d (mb_84 g).2 (0, [(0, .ref a), (1, .int x1), (2, .int x2), (3, .int x3)], [], M) _
  refine ml_st (S' := (1, [(0, .ref a), (1, .int x1), (2, .int x2), (3, .int x3)], [.ref a], M)) rfl rfl rfl ?_
  refine tg_ref (S' := (4, [(0, .ref a), (1, .int x1), (2, .int x2), (3, .int x3)], [.ref o], M)) rfl hS.1 hY0 (by decide) rfl rfl ?_
  refine ml_blk 2 (S' := (6, [(0, .ref a), (1, .int x1), (2, .int x2), (3, .int x3)], [.int x1, .ref a, .ref o], M)) rfl ?_
  refine ml_call (a := [.ref a, .int x1]) (rest := [.ref o]) rfl (okc_t rfl rfl rfl hS.1 hY0 (by decide)) rfl rfl (tw_Co_startOf hS.1 hY0 hY1 hY2 hY3 (by omega)) (fun v1 M2 h3 => ?_)
  obtain ⟨⟨u4, rfl⟩, h3⟩ := h3
  rw [h3]
  show ml _ _ _ (9, [(0, .ref a), (1, .int x1), (2, .int x2), (3, .int x3)], [.int u4, .ref o], M) _
  refine ml_call (a := [.ref o, .int u4]) (rest := []) rfl (okc_t rfl rfl rfl hS.1 hY2 (by decide)) rfl rfl (ti_isTakenApart hS.1 hY2 hY3 (by omega)) (fun v5 M6 h7 => ?_)
  obtain ⟨⟨u8, rfl, z9⟩, h7⟩ := h7
  have hS10 := hS.tr h7.1
  show ml _ _ _ (12, [(0, .ref a), (1, .int x1), (2, .int x2), (3, .int x3)], [.int u8], M6) _
  refine ml_if (S1 := (40, [], [], M6)) (S2 := (15, [(0, .ref a), (1, .int x1), (2, .int x2), (3, .int x3)], [], M6)) rfl rfl rfl (fun c_12 => ?_) (fun c_12 => ?_)
  · have c_12 : u8 = 0 := of_decide_eq_true c_12
    refine ml_st (S' := (41, [], [.int (-1)], M6)) rfl rfl rfl ?_
    exact ml_ret rfl (rfl) (⟨⟨_, rfl⟩, hS10⟩)
  · have c_12 : ¬ (u8 = 0) := of_decide_eq_false c_12
    refine ml_st (S' := (16, [(0, .ref a), (1, .int x1), (2, .int x2), (3, .int x3)], [.ref a], M6)) rfl rfl rfl ?_
    refine tg_ref (S' := (19, [(0, .ref a), (1, .int x1), (2, .int x2), (3, .int x3)], [.ref o], M6)) rfl hS10.1 hY0 (by decide) rfl rfl ?_
    refine ml_call (a := [.ref o]) (rest := []) rfl (okc_t rfl rfl rfl hS10.1 hY2 (by decide)) rfl rfl (ti_isSwitch hS10.1 hY2 hY3 (by omega)) (fun v11 M12 h13 => ?_)
    obtain ⟨⟨u14, rfl, z15⟩, h13⟩ := h13
    rw [h13]
    show ml _ _ _ (22, [(0, .ref a), (1, .int x1), (2, .int x2), (3, .int x3)], [.int u14], M6) _
    refine ml_if (S1 := (40, [], [], M6)) (S2 := (25, [(0, .ref a), (1, .int x1), (2, .int x2), (3, .int x3)], [], M6)) rfl rfl rfl (fun c_22 => ?_) (fun c_22 => ?_)
    · have c_22 : u14 = 0 := of_decide_eq_true c_22
      refine ml_st (S' := (41, [], [.int (-1)], M6)) rfl rfl rfl ?_
      exact ml_ret rfl (rfl) (⟨⟨_, rfl⟩, hS10⟩)
    · have c_22 : ¬ (u14 = 0) := of_decide_eq_false c_22
      refine ml_st (S' := (26, [(0, .ref a), (1, .int x1), (2, .int x2), (3, .int x3)], [.int x2], M6)) rfl rfl rfl ?_
      refine ml_if (S1 := (40, [], [], M6)) (S2 := (29, [(0, .ref a), (1, .int x1), (2, .int x2), (3, .int x3)], [], M6)) rfl rfl rfl (fun c_26 => ?_) (fun c_26 => ?_)
      · have c_26 : x2 < 0 := of_decide_eq_true c_26
        refine ml_st (S' := (41, [], [.int (-1)], M6)) rfl rfl rfl ?_
        exact ml_ret rfl (rfl) (⟨⟨_, rfl⟩, hS10⟩)
      · have c_26 : ¬ (x2 < 0) := of_decide_eq_false c_26
        refine ml_blk 2 (S' := (31, [(0, .ref a), (1, .int x1), (2, .int x2), (3, .int x3)], [.ref a, .int x2], M6)) rfl ?_
        refine tg_ref (S' := (34, [(0, .ref a), (1, .int x1), (2, .int x2), (3, .int x3)], [.ref o, .int x2], M6)) rfl hS10.1 hY0 (by decide) rfl rfl ?_
        refine tg_int rfl hS10.1 hY2 (by decide) rfl (fun u16 g17 => ?_)
        show ml _ _ _ (37, [(0, .ref a), (1, .int x1), (2, .int x2), (3, .int x3)], [.int u16, .int x2], M6) _
        refine ml_if2 (S1 := (42, [(0, .ref a), (1, .int x1), (2, .int x2), (3, .int x3)], [], M6)) (S2 := (40, [], [], M6)) rfl rfl rfl (fun c_37 => ?_) (fun c_37 => ?_)
        · have c_37 : x2 < u16 := of_decide_eq_true c_37
          refine ml_st (S' := (43, [(0, .ref a), (1, .int x1), (2, .int x2), (3, .int x3)], [.int x3], M6)) rfl rfl rfl ?_
          refine ml_if (S1 := (57, [(0, .ref a), (1, .int x1), (2, .int x2), (3, .int x3)], [], M6)) (S2 := (46, [(0, .ref a), (1, .int x1), (2, .int x2), (3, .int x3)], [], M6)) rfl rfl rfl (fun c_43 => ?_) (fun c_43 => ?_)
          · have c_43 : x3 = 0 := of_decide_eq_true c_43
            refine ml_blk 2 (S' := (59, [(0, .ref a), (1, .int x1), (2, .int x2), (3, .int x3)], [.ref a, .ref a], M6)) rfl ?_
            refine tg_ref (S' := (62, [(0, .ref a), (1, .int x1), (2, .int x2), (3, .int x3)], [.ref o, .ref a], M6)) rfl hS10.1 hY0 (by decide) rfl rfl ?_
            refine ml_st (S' := (63, [(0, .ref a), (1, .int x1), (2, .int x2), (3, .int x3)], [.int x2, .ref o, .ref a], M6)) rfl rfl rfl ?_
            refine ml_call (a := [.ref o, .int x2]) (rest := [.ref a]) rfl (okc_t rfl rfl rfl hS10.1 hY2 (by decide)) rfl rfl (ti_target hS10.1 hY2 hY3 (by omega)) (fun v18 M19 h20 => ?_)
            obtain ⟨⟨u21, rfl⟩, h20⟩ := h20
            rw [h20]
            show ml _ _ _ (66, [(0, .ref a), (1, .int x1), (2, .int x2), (3, .int x3)], [.long u21, .ref a], M6) _
            refine ml_call (a := [.ref a, .long u21]) (rest := []) rfl (okc_t rfl rfl rfl hS10.1 hY0 (by decide)) rfl rfl (tw_Co_numberAt hS10.1 hY0 hY1 hY2 hY3 (by omega)) (fun v22 M23 h24 => ?_)
            obtain ⟨⟨u25, rfl⟩, h24⟩ := h24
            rw [h24]
            show ml _ _ _ (69, [], [.int u25], M6) _
            exact ml_ret rfl (rfl) (⟨⟨_, rfl⟩, hS10⟩)
          · have c_43 : ¬ (x3 = 0) := of_decide_eq_false c_43
            refine ml_st (S' := (47, [(0, .ref a), (1, .int x1), (2, .int x2), (3, .int x3)], [.ref a], M6)) rfl rfl rfl ?_
            refine tg_ref (S' := (50, [(0, .ref a), (1, .int x1), (2, .int x2), (3, .int x3)], [.ref o], M6)) rfl hS10.1 hY0 (by decide) rfl rfl ?_
            refine ml_st (S' := (51, [(0, .ref a), (1, .int x1), (2, .int x2), (3, .int x3)], [.int x2, .ref o], M6)) rfl rfl rfl ?_
            refine ml_call (a := [.ref o, .int x2]) (rest := []) rfl (okc_t rfl rfl rfl hS10.1 hY2 (by decide)) rfl rfl (ti_keyOf hS10.1 hY2 hY3 (by omega)) (fun v26 M27 h28 => ?_)
            obtain ⟨⟨u29, rfl⟩, h28⟩ := h28
            rw [h28]
            show ml _ _ _ (54, [(0, .ref a), (1, .int x1), (2, .int x2), (3, .int x3)], [.int u29], M6) _
            refine ml_st (S' := (69, [], [.int u29], M6)) rfl rfl rfl ?_
            exact ml_ret rfl (rfl) (⟨⟨_, rfl⟩, hS10⟩)
        · have c_37 : ¬ (x2 < u16) := of_decide_eq_false c_37
          refine ml_st (S' := (41, [], [.int (-1)], M6)) rfl rfl rfl ?_
          exact ml_ret rfl (rfl) (⟨⟨_, rfl⟩, hS10⟩)
