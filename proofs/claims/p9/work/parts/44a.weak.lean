/-! weak contracts: members, the file, the class (laid by wip/p2/c43.py) -/
set_option maxHeartbeats 2000000 in
theorem tw_Me_has {g : xe_G} {M : mi_H} {Y : yT} {me da n : Nat} {x1 : Int32}  (hW : WF g Y M) (hY0 : Y.1 me = some (6, [da, n])) {d : Nat} (hd : 1 ≤ d) : mt (mT g) d 108 [.ref me, .int x1] M (pZ M) := by
  obtain ⟨d, rfl⟩ : ∃ e, d = e + 1 := ⟨d - 1, by omega⟩
  have hS : st g Y M M := st.rf hW
  refine mt_in (b := mb_108 g) rfl rfl ?_
  show ml (mT g) d (mb_108 g).2 (0, [(0, .ref me), (1, .int x1)], [], M) _
  refine ml_st (S' := (1, [(0, .ref me), (1, .int x1)], [.ref me], M)) rfl rfl rfl ?_
  refine tg_int rfl hS.1 hY0 (by decide) rfl (fun u1 g2 => ?_)
  show ml _ _ _ (4, [(0, .ref me), (1, .int x1)], [.int u1], M) _
  refine ml_blk 2 (S' := (6, [(0, .ref me), (1, .int x1)], [.int (u1 &&& x1)], M)) rfl ?_
  refine ml_if (S1 := (13, [(0, .ref me), (1, .int x1)], [], M)) (S2 := (9, [(0, .ref me), (1, .int x1)], [], M)) rfl rfl rfl (fun c_6 => ?_) (fun c_6 => ?_)
  · have c_6 : (u1 &&& x1) = 0 := of_decide_eq_true c_6
    refine ml_st (S' := (14, [], [.int 0], M)) rfl rfl rfl ?_
    exact ml_ret rfl (r_z (Or.inl rfl)) (⟨⟨_, rfl, Or.inl rfl⟩, rfl⟩)
  · have c_6 : ¬ ((u1 &&& x1) = 0) := of_decide_eq_false c_6
    refine ml_st (S' := (10, [(0, .ref me), (1, .int x1)], [.int 1], M)) rfl rfl rfl ?_
    refine ml_st (S' := (14, [], [.int 1], M)) rfl rfl rfl ?_
    exact ml_ret rfl (r_z (Or.inr rfl)) (⟨⟨_, rfl, Or.inr rfl⟩, rfl⟩)
set_option maxHeartbeats 2000000 in
theorem tw_Me_codeNumber {g : xe_G} {M : mi_H} {Y : yT} {me da n : Nat} {x1 : Int32}  (hW : WF g Y M) (hY0 : Y.1 me = some (6, [da, n])) {d : Nat} (hd : 1 ≤ d) : mt (mT g) d 107 [.ref me, .int x1] M (pI M) := by
  obtain ⟨d, rfl⟩ : ∃ e, d = e + 1 := ⟨d - 1, by omega⟩
  have hS : st g Y M M := st.rf hW
  refine mt_in (b := mb_107 g) rfl rfl ?_
  show ml (mT g) d (mb_107 g).2 (0, [(0, .ref me), (1, .int x1)], [], M) _
  refine ml_st (S' := (1, [(0, .ref me), (1, .int x1)], [.ref me], M)) rfl rfl rfl ?_
  refine tg_vn rfl hS.1 hY0 (by decide) rfl (fun g3 => ?_) (fun b1 g3 h2 => ?_)
  · show ml _ _ _ (4, [(0, .ref me), (1, .int x1)], [.null], M) _
    refine ml_st (S' := (7, [(0, .ref me), (1, .int x1)], [], M)) rfl rfl rfl ?_
    refine ml_st (S' := (8, [(0, .ref me), (1, .int x1)], [.int 0], M)) rfl rfl rfl ?_
    exact ml_ret rfl (rfl) (⟨⟨_, rfl⟩, rfl⟩)
  · skip
    obtain ⟨p4, o5, h2⟩ := h2
    obtain ⟨⟨pp6, h7⟩, b8, h9⟩ := hS.1.lnk h2 (by decide)
    obtain ⟨da10, n11, h12⟩ := hS.1.lnk h9 (by decide)
    show ml _ _ _ (4, [(0, .ref me), (1, .int x1)], [.ref b1], M) _
    refine ml_st (S' := (9, [(0, .ref me), (1, .int x1)], [], M)) rfl rfl rfl ?_
    refine ml_st (S' := (10, [(0, .ref me), (1, .int x1)], [.int x1], M)) rfl rfl rfl ?_
    refine ml_sw rfl (fun t_10 ht_10 => ?_)
    have kt_10 := ht_10
    have ht_10 : t_10 ∈ [36, 44, 52, 60] := mi_sw_sub ht_10 (by decide)
    simp only [List.mem_cons, List.not_mem_nil, or_false] at ht_10
    rcases ht_10 with rfl | rfl | rfl | rfl
    · show ml _ _ _ (36, [(0, .ref me), (1, .int x1)], [], M) _
      refine ml_st (S' := (37, [(0, .ref me), (1, .int x1)], [.ref me], M)) rfl rfl rfl ?_
      refine ml_get (S' := (40, [(0, .ref me), (1, .int x1)], [.ref b1], M)) rfl g3 rfl ?_
      refine tg_int rfl hS.1 h2 (by decide) rfl (fun u13 g14 => ?_)
      show ml _ _ _ (43, [(0, .ref me), (1, .int x1)], [.int u13], M) _
      exact ml_ret rfl (rfl) (⟨⟨_, rfl⟩, rfl⟩)
    · show ml _ _ _ (44, [(0, .ref me), (1, .int x1)], [], M) _
      refine ml_st (S' := (45, [(0, .ref me), (1, .int x1)], [.ref me], M)) rfl rfl rfl ?_
      refine ml_get (S' := (48, [(0, .ref me), (1, .int x1)], [.ref b1], M)) rfl g3 rfl ?_
      refine tg_int rfl hS.1 h2 (by decide) rfl (fun u15 g16 => ?_)
      show ml _ _ _ (51, [(0, .ref me), (1, .int x1)], [.int u15], M) _
      exact ml_ret rfl (rfl) (⟨⟨_, rfl⟩, rfl⟩)
    · show ml _ _ _ (52, [(0, .ref me), (1, .int x1)], [], M) _
      refine ml_st (S' := (53, [(0, .ref me), (1, .int x1)], [.ref me], M)) rfl rfl rfl ?_
      refine ml_get (S' := (56, [(0, .ref me), (1, .int x1)], [.ref b1], M)) rfl g3 rfl ?_
      refine tg_int rfl hS.1 h2 (by decide) rfl (fun u17 g18 => ?_)
      show ml _ _ _ (59, [(0, .ref me), (1, .int x1)], [.int u17], M) _
      exact ml_ret rfl (rfl) (⟨⟨_, rfl⟩, rfl⟩)
    · show ml _ _ _ (60, [(0, .ref me), (1, .int x1)], [], M) _
      refine ml_st (S' := (61, [(0, .ref me), (1, .int x1)], [.ref me], M)) rfl rfl rfl ?_
      refine ml_get (S' := (64, [(0, .ref me), (1, .int x1)], [.ref b1], M)) rfl g3 rfl ?_
      refine tg_int rfl hS.1 h2 (by decide) rfl (fun u19 g20 => ?_)
      show ml _ _ _ (67, [(0, .ref me), (1, .int x1)], [.int u19], M) _
      exact ml_ret rfl (rfl) (⟨⟨_, rfl⟩, rfl⟩)
set_option maxHeartbeats 2000000 in
theorem tw_Me_number {g : xe_G} {M : mi_H} {Y : yT} {me da n : Nat} {x1 x2 : Int32}  (hW : WF g Y M) (hY0 : Y.1 me = some (6, [da, n])) {d : Nat} (hd : 2 ≤ d) : mt (mT g) d 109 [.ref me, .int x1, .int x2] M (pI M) := by
  obtain ⟨d, rfl⟩ : ∃ e, d = e + 1 := ⟨d - 1, by omega⟩
  have hS : st g Y M M := st.rf hW
  refine mt_in (b := mb_109 g) rfl rfl ?_
  show ml (mT g) d (mb_109 g).2 (0, [(0, .ref me), (1, .int x1), (2, .int x2)], [], M) _
  refine ml_st (S' := (1, [(0, .ref me), (1, .int x1), (2, .int x2)], [.int x2], M)) rfl rfl rfl ?_
  refine ml_sw rfl (fun t_1 ht_1 => ?_)
  have kt_1 := ht_1
  have ht_1 : t_1 ∈ [56, 61, 66, 71, 76, 81, 86] := mi_sw_sub ht_1 (by decide)
  simp only [List.mem_cons, List.not_mem_nil, or_false] at ht_1
  rcases ht_1 with rfl | rfl | rfl | rfl | rfl | rfl | rfl
  · show ml _ _ _ (56, [(0, .ref me), (1, .int x1), (2, .int x2)], [], M) _
    refine ml_st (S' := (57, [(0, .ref me), (1, .int x1), (2, .int x2)], [.ref me], M)) rfl rfl rfl ?_
    refine tg_int rfl hS.1 hY0 (by decide) rfl (fun u1 g2 => ?_)
    show ml _ _ _ (60, [(0, .ref me), (1, .int x1), (2, .int x2)], [.int u1], M) _
    exact ml_ret rfl (rfl) (⟨⟨_, rfl⟩, rfl⟩)
  · show ml _ _ _ (61, [(0, .ref me), (1, .int x1), (2, .int x2)], [], M) _
    refine ml_st (S' := (62, [(0, .ref me), (1, .int x1), (2, .int x2)], [.ref me], M)) rfl rfl rfl ?_
    refine tg_int rfl hS.1 hY0 (by decide) rfl (fun u3 g4 => ?_)
    show ml _ _ _ (65, [(0, .ref me), (1, .int x1), (2, .int x2)], [.int u3], M) _
    exact ml_ret rfl (rfl) (⟨⟨_, rfl⟩, rfl⟩)
  · show ml _ _ _ (66, [(0, .ref me), (1, .int x1), (2, .int x2)], [], M) _
    refine ml_st (S' := (67, [(0, .ref me), (1, .int x1), (2, .int x2)], [.ref me], M)) rfl rfl rfl ?_
    refine tg_int rfl hS.1 hY0 (by decide) rfl (fun u5 g6 => ?_)
    show ml _ _ _ (70, [(0, .ref me), (1, .int x1), (2, .int x2)], [.int u5], M) _
    exact ml_ret rfl (rfl) (⟨⟨_, rfl⟩, rfl⟩)
  · show ml _ _ _ (71, [(0, .ref me), (1, .int x1), (2, .int x2)], [], M) _
    refine ml_st (S' := (72, [(0, .ref me), (1, .int x1), (2, .int x2)], [.ref me], M)) rfl rfl rfl ?_
    refine tg_int rfl hS.1 hY0 (by decide) rfl (fun u7 g8 => ?_)
    show ml _ _ _ (75, [(0, .ref me), (1, .int x1), (2, .int x2)], [.int u7], M) _
    exact ml_ret rfl (rfl) (⟨⟨_, rfl⟩, rfl⟩)
  · show ml _ _ _ (76, [(0, .ref me), (1, .int x1), (2, .int x2)], [], M) _
    refine ml_st (S' := (77, [(0, .ref me), (1, .int x1), (2, .int x2)], [.ref me], M)) rfl rfl rfl ?_
    refine tg_int rfl hS.1 hY0 (by decide) rfl (fun u9 g10 => ?_)
    show ml _ _ _ (80, [(0, .ref me), (1, .int x1), (2, .int x2)], [.int u9], M) _
    exact ml_ret rfl (rfl) (⟨⟨_, rfl⟩, rfl⟩)
  · show ml _ _ _ (81, [(0, .ref me), (1, .int x1), (2, .int x2)], [], M) _
    refine ml_st (S' := (82, [(0, .ref me), (1, .int x1), (2, .int x2)], [.ref me], M)) rfl rfl rfl ?_
    refine tg_int rfl hS.1 hY0 (by decide) rfl (fun u11 g12 => ?_)
    show ml _ _ _ (85, [(0, .ref me), (1, .int x1), (2, .int x2)], [.int u11], M) _
    exact ml_ret rfl (rfl) (⟨⟨_, rfl⟩, rfl⟩)
  · show ml _ _ _ (86, [(0, .ref me), (1, .int x1), (2, .int x2)], [], M) _
    refine ml_st (S' := (87, [(0, .ref me), (1, .int x1), (2, .int x2)], [.int x1], M)) rfl rfl rfl ?_
    refine ml_if (S1 := (98, [(0, .ref me), (1, .int x1), (2, .int x2)], [], M)) (S2 := (90, [(0, .ref me), (1, .int x1), (2, .int x2)], [], M)) rfl rfl rfl (fun c_87 => ?_) (fun c_87 => ?_)
    · have c_87 : x1 = 0 := of_decide_eq_true c_87
      refine ml_blk 2 (S' := (100, [(0, .ref me), (1, .int x1), (2, .int x2)], [.int 4, .int x2], M)) rfl ?_
      refine ml_if2 (S1 := (110, [(0, .ref me), (1, .int x1), (2, .int x2)], [], M)) (S2 := (103, [(0, .ref me), (1, .int x1), (2, .int x2)], [], M)) rfl rfl rfl (fun c_100 => ?_) (fun c_100 => ?_)
      · have c_100 : ¬ x2 = 4 := of_decide_eq_true c_100
        refine ml_st (S' := (111, [], [.int 0], M)) rfl rfl rfl ?_
        exact ml_ret rfl (rfl) (⟨⟨_, rfl⟩, rfl⟩)
      · have c_100 : ¬ (¬ x2 = 4) := of_decide_eq_false c_100
        refine ml_st (S' := (104, [(0, .ref me), (1, .int x1), (2, .int x2)], [.ref me], M)) rfl rfl rfl ?_
        refine tg_int rfl hS.1 hY0 (by decide) rfl (fun u13 g14 => ?_)
        show ml _ _ _ (107, [(0, .ref me), (1, .int x1), (2, .int x2)], [.int u13], M) _
        refine ml_st (S' := (111, [], [.int u13], M)) rfl rfl rfl ?_
        exact ml_ret rfl (rfl) (⟨⟨_, rfl⟩, rfl⟩)
    · have c_87 : ¬ (x1 = 0) := of_decide_eq_false c_87
      refine ml_blk 2 (S' := (92, [(0, .ref me), (1, .int x1), (2, .int x2)], [.int x2, .ref me], M)) rfl ?_
      refine ml_call (a := [.ref me, .int x2]) (rest := []) rfl (okc_t rfl rfl rfl hS.1 hY0 (by decide)) rfl rfl (tw_Me_codeNumber hS.1 hY0 (by omega)) (fun v15 M16 h17 => ?_)
      obtain ⟨⟨u18, rfl⟩, h17⟩ := h17
      rw [h17]
      show ml _ _ _ (95, [(0, .ref me), (1, .int x1), (2, .int x2)], [.int u18], M) _
      refine ml_st (S' := (111, [], [.int u18], M)) rfl rfl rfl ?_
      exact ml_ret rfl (rfl) (⟨⟨_, rfl⟩, rfl⟩)
