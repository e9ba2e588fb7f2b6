/-! one instruction (laid by wip/p2/c46.py) -/
set_option maxHeartbeats 2000000 in
theorem ti_u1 {g : xe_G} {M : mi_H} {Y : yT} {o b k da n : Nat} {x1 : Int32}  (hW : WF g Y M) (hY0 : Y.1 o = some (5, [b, k])) (hY1 : Y.1 b = some (1, [da, n])) {d : Nat} (hd : 2 ≤ d) : mt (mT g) d 104 [.ref o, .int x1] M (pI M) := by
  obtain ⟨d, rfl⟩ : ∃ e, d = e + 1 := ⟨d - 1, by omega⟩
  have hS : st g Y M M := st.rf hW
  refine mt_in (b := mb_104 g) rfl rfl ?_
  show ml (mT g) d (mb_104 g).2 (0, [(0, .ref o), (1, .int x1)], [], M) _
  refine ml_st (S' := (1, [(0, .ref o), (1, .int x1)], [.ref o], M)) rfl rfl rfl ?_
  refine tg_ref (S' := (4, [(0, .ref o), (1, .int x1)], [.ref b], M)) rfl hS.1 hY0 (by decide) rfl rfl ?_
  refine ml_st (S' := (5, [(0, .ref o), (1, .int x1)], [.ref o, .ref b], M)) rfl rfl rfl ?_
  refine tg_int rfl hS.1 hY0 (by decide) rfl (fun u1 g2 => ?_)
  show ml _ _ _ (8, [(0, .ref o), (1, .int x1)], [.int u1, .ref b], M) _
  refine ml_blk 2 (S' := (10, [(0, .ref o), (1, .int x1)], [.int (u1 + x1), .ref b], M)) rfl ?_
  refine ml_call (a := [.ref b, .int (u1 + x1)]) (rest := []) rfl (okc_t rfl rfl rfl hS.1 hY1 (by decide)) rfl rfl (tq_u1 hS.1 hY1 (by omega)) (fun v3 M4 h5 => ?_)
  obtain ⟨⟨u6, rfl⟩, h5⟩ := h5
  rw [h5]
  show ml _ _ _ (13, [(0, .ref o), (1, .int x1)], [.int u6], M) _
  exact ml_ret rfl (rfl) (⟨⟨_, rfl⟩, rfl⟩)
set_option maxHeartbeats 2000000 in
theorem ti_u2 {g : xe_G} {M : mi_H} {Y : yT} {o b k da n : Nat} {x1 : Int32}  (hW : WF g Y M) (hY0 : Y.1 o = some (5, [b, k])) (hY1 : Y.1 b = some (1, [da, n])) {d : Nat} (hd : 2 ≤ d) : mt (mT g) d 105 [.ref o, .int x1] M (pI M) := by
  obtain ⟨d, rfl⟩ : ∃ e, d = e + 1 := ⟨d - 1, by omega⟩
  have hS : st g Y M M := st.rf hW
  refine mt_in (b := mb_105 g) rfl rfl ?_
  show ml (mT g) d (mb_105 g).2 (0, [(0, .ref o), (1, .int x1)], [], M) _
  refine ml_st (S' := (1, [(0, .ref o), (1, .int x1)], [.ref o], M)) rfl rfl rfl ?_
  refine tg_ref (S' := (4, [(0, .ref o), (1, .int x1)], [.ref b], M)) rfl hS.1 hY0 (by decide) rfl rfl ?_
  refine ml_st (S' := (5, [(0, .ref o), (1, .int x1)], [.ref o, .ref b], M)) rfl rfl rfl ?_
  refine tg_int rfl hS.1 hY0 (by decide) rfl (fun u1 g2 => ?_)
  show ml _ _ _ (8, [(0, .ref o), (1, .int x1)], [.int u1, .ref b], M) _
  refine ml_blk 2 (S' := (10, [(0, .ref o), (1, .int x1)], [.int (u1 + x1), .ref b], M)) rfl ?_
  refine ml_call (a := [.ref b, .int (u1 + x1)]) (rest := []) rfl (okc_t rfl rfl rfl hS.1 hY1 (by decide)) rfl rfl (tq_u2 hS.1 hY1 (by omega)) (fun v3 M4 h5 => ?_)
  obtain ⟨⟨u6, rfl⟩, h5⟩ := h5
  rw [h5]
  show ml _ _ _ (13, [(0, .ref o), (1, .int x1)], [.int u6], M) _
  exact ml_ret rfl (rfl) (⟨⟨_, rfl⟩, rfl⟩)
set_option maxHeartbeats 2000000 in
theorem ti_s4 {g : xe_G} {M : mi_H} {Y : yT} {o b k da n : Nat} {x1 : Int32}  (hW : WF g Y M) (hY0 : Y.1 o = some (5, [b, k])) (hY1 : Y.1 b = some (1, [da, n])) {d : Nat} (hd : 2 ≤ d) : mt (mT g) d 101 [.ref o, .int x1] M (pI M) := by
  obtain ⟨d, rfl⟩ : ∃ e, d = e + 1 := ⟨d - 1, by omega⟩
  have hS : st g Y M M := st.rf hW
  refine mt_in (b := mb_101 g) rfl rfl ?_
  show ml (mT g) d (mb_101 g).2 (0, [(0, .ref o), (1, .int x1)], [], M) _
  refine ml_st (S' := (1, [(0, .ref o), (1, .int x1)], [.ref o], M)) rfl rfl rfl ?_
  refine tg_ref (S' := (4, [(0, .ref o), (1, .int x1)], [.ref b], M)) rfl hS.1 hY0 (by decide) rfl rfl ?_
  refine ml_st (S' := (5, [(0, .ref o), (1, .int x1)], [.ref o, .ref b], M)) rfl rfl rfl ?_
  refine tg_int rfl hS.1 hY0 (by decide) rfl (fun u1 g2 => ?_)
  show ml _ _ _ (8, [(0, .ref o), (1, .int x1)], [.int u1, .ref b], M) _
  refine ml_blk 2 (S' := (10, [(0, .ref o), (1, .int x1)], [.int (u1 + x1), .ref b], M)) rfl ?_
  refine ml_call (a := [.ref b, .int (u1 + x1)]) (rest := []) rfl (okc_t rfl rfl rfl hS.1 hY1 (by decide)) rfl rfl (tq_u4 hS.1 hY1 (by omega)) (fun v3 M4 h5 => ?_)
  obtain ⟨⟨u6, rfl⟩, h5⟩ := h5
  rw [h5]
  show ml _ _ _ (13, [(0, .ref o), (1, .int x1)], [.int u6], M) _
  exact ml_ret rfl (rfl) (⟨⟨_, rfl⟩, rfl⟩)
set_option maxHeartbeats 2000000 in
theorem ti_isSwitch {g : xe_G} {M : mi_H} {Y : yT} {o b k da n : Nat}  (hW : WF g Y M) (hY0 : Y.1 o = some (5, [b, k])) (hY1 : Y.1 b = some (1, [da, n])) {d : Nat} (hd : 1 ≤ d) : mt (mT g) d 95 [.ref o] M (pZ M) := by
  obtain ⟨d, rfl⟩ : ∃ e, d = e + 1 := ⟨d - 1, by omega⟩
  have hS : st g Y M M := st.rf hW
  refine mt_in (b := mb_95 g) rfl rfl ?_
  show ml (mT g) d (mb_95 g).2 (0, [(0, .ref o)], [], M) _
  refine ml_st (S' := (1, [(0, .ref o)], [.ref o], M)) rfl rfl rfl ?_
  refine tg_int rfl hS.1 hY0 (by decide) rfl (fun u1 g2 => ?_)
  show ml _ _ _ (4, [(0, .ref o)], [.int u1], M) _
  refine ml_st (S' := (7, [(0, .ref o)], [.int 170, .int u1], M)) rfl rfl rfl ?_
  refine ml_if2 (S1 := (20, [], [], M)) (S2 := (10, [(0, .ref o)], [], M)) rfl rfl rfl (fun c_7 => ?_) (fun c_7 => ?_)
  · have c_7 : u1 = 170 := of_decide_eq_true c_7
    refine ml_st (S' := (21, [], [.int 1], M)) rfl rfl rfl ?_
    refine ml_st (S' := (25, [], [.int 1], M)) rfl rfl rfl ?_
    exact ml_ret rfl (r_z (Or.inr rfl)) (⟨⟨_, rfl, Or.inr rfl⟩, rfl⟩)
  · have c_7 : ¬ (u1 = 170) := of_decide_eq_false c_7
    refine ml_st (S' := (11, [(0, .ref o)], [.ref o], M)) rfl rfl rfl ?_
    refine ml_get (S' := (14, [(0, .ref o)], [.int u1], M)) rfl g2 rfl ?_
    refine ml_st (S' := (17, [(0, .ref o)], [.int 171, .int u1], M)) rfl rfl rfl ?_
    refine ml_if2 (S1 := (24, [(0, .ref o)], [], M)) (S2 := (20, [], [], M)) rfl rfl rfl (fun c_17 => ?_) (fun c_17 => ?_)
    · have c_17 : ¬ u1 = 171 := of_decide_eq_true c_17
      refine ml_st (S' := (25, [], [.int 0], M)) rfl rfl rfl ?_
      exact ml_ret rfl (r_z (Or.inl rfl)) (⟨⟨_, rfl, Or.inl rfl⟩, rfl⟩)
    · have c_17 : ¬ (¬ u1 = 171) := of_decide_eq_false c_17
      refine ml_st (S' := (21, [], [.int 1], M)) rfl rfl rfl ?_
      refine ml_st (S' := (25, [], [.int 1], M)) rfl rfl rfl ?_
      exact ml_ret rfl (r_z (Or.inr rfl)) (⟨⟨_, rfl, Or.inr rfl⟩, rfl⟩)
set_option maxHeartbeats 2000000 in
theorem ti_isJump {g : xe_G} {M : mi_H} {Y : yT} {o b k da n : Nat}  (hW : WF g Y M) (hY0 : Y.1 o = some (5, [b, k])) (hY1 : Y.1 b = some (1, [da, n])) {d : Nat} (hd : 2 ≤ d) : mt (mT g) d 89 [.ref o] M (pZ M) := by
  obtain ⟨d, rfl⟩ : ∃ e, d = e + 1 := ⟨d - 1, by omega⟩
  have hS : st g Y M M := st.rf hW
  refine mt_in (b := mb_89 g) rfl rfl ?_
  show ml (mT g) d (mb_89 g).2 (0, [(0, .ref o)], [], M) _
  refine ml_st (S' := (1, [(0, .ref o)], [.ref o], M)) rfl rfl rfl ?_
  refine tg_int rfl hS.1 hY0 (by decide) rfl (fun u1 g2 => ?_)
  show ml _ _ _ (4, [(0, .ref o)], [.int u1], M) _
  refine ml_if (S1 := (18, [], [], M)) (S2 := (7, [(0, .ref o)], [], M)) rfl rfl rfl (fun c_4 => ?_) (fun c_4 => ?_)
  · have c_4 : u1 ≤ 0 := of_decide_eq_true c_4
    refine ml_st (S' := (19, [], [.int 0], M)) rfl rfl rfl ?_
    exact ml_ret rfl (r_z (Or.inl rfl)) (⟨⟨_, rfl, Or.inl rfl⟩, rfl⟩)
  · have c_4 : ¬ (u1 ≤ 0) := of_decide_eq_false c_4
    refine ml_st (S' := (8, [(0, .ref o)], [.ref o], M)) rfl rfl rfl ?_
    refine ml_call (a := [.ref o]) (rest := []) rfl (okc_t rfl rfl rfl hS.1 hY0 (by decide)) rfl rfl (ti_isSwitch hS.1 hY0 hY1 (by omega)) (fun v3 M4 h5 => ?_)
    obtain ⟨⟨u6, rfl, z7⟩, h5⟩ := h5
    rw [h5]
    show ml _ _ _ (11, [(0, .ref o)], [.int u6], M) _
    refine ml_if (S1 := (18, [], [], M)) (S2 := (14, [(0, .ref o)], [], M)) rfl rfl rfl (fun c_11 => ?_) (fun c_11 => ?_)
    · have c_11 : ¬ u6 = 0 := of_decide_eq_true c_11
      refine ml_st (S' := (19, [], [.int 0], M)) rfl rfl rfl ?_
      exact ml_ret rfl (r_z (Or.inl rfl)) (⟨⟨_, rfl, Or.inl rfl⟩, rfl⟩)
    · have c_11 : ¬ (¬ u6 = 0) := of_decide_eq_false c_11
      refine ml_st (S' := (15, [(0, .ref o)], [.int 1], M)) rfl rfl rfl ?_
      refine ml_st (S' := (19, [], [.int 1], M)) rfl rfl rfl ?_
      exact ml_ret rfl (r_z (Or.inr rfl)) (⟨⟨_, rfl, Or.inr rfl⟩, rfl⟩)
set_option maxHeartbeats 2000000 in
theorem ti_keyOf {g : xe_G} {M : mi_H} {Y : yT} {o b k da n : Nat} {x1 : Int32}  (hW : WF g Y M) (hY0 : Y.1 o = some (5, [b, k])) (hY1 : Y.1 b = some (1, [da, n])) {d : Nat} (hd : 3 ≤ d) : mt (mT g) d 100 [.ref o, .int x1] M (pI M) := by
  obtain ⟨d, rfl⟩ : ∃ e, d = e + 1 := ⟨d - 1, by omega⟩
  have hS : st g Y M M := st.rf hW
  refine mt_in (b := mb_100 g) rfl rfl ?_
  show ml (mT g) d (mb_100 g).2 (0, [(0, .ref o), (1, .int x1)], [], M) _
  refine ml_st (S' := (1, [(0, .ref o), (1, .int x1)], [.int x1], M)) rfl rfl rfl ?_
  refine ml_if (S1 := (6, [(0, .ref o), (1, .int x1)], [], M)) (S2 := (4, [(0, .ref o), (1, .int x1)], [], M)) rfl rfl rfl (fun c_1 => ?_) (fun c_1 => ?_)
  · have c_1 : ¬ x1 = 0 := of_decide_eq_true c_1
    refine ml_st (S' := (7, [(0, .ref o), (1, .int x1)], [.ref o], M)) rfl rfl rfl ?_
    refine tg_int rfl hS.1 hY0 (by decide) rfl (fun u1 g2 => ?_)
    show ml _ _ _ (10, [(0, .ref o), (1, .int x1)], [.int u1], M) _
    refine ml_st (S' := (13, [(0, .ref o), (1, .int x1)], [.int 170, .int u1], M)) rfl rfl rfl ?_
    refine ml_if2 (S1 := (27, [(0, .ref o), (1, .int x1)], [], M)) (S2 := (16, [(0, .ref o), (1, .int x1)], [], M)) rfl rfl rfl (fun c_13 => ?_) (fun c_13 => ?_)
    · have c_13 : ¬ u1 = 170 := of_decide_eq_true c_13
      refine ml_blk 2 (S' := (29, [(0, .ref o), (1, .int x1)], [.ref o, .ref o], M)) rfl ?_
      refine tg_int rfl hS.1 hY0 (by decide) rfl (fun u3 g4 => ?_)
      show ml _ _ _ (32, [(0, .ref o), (1, .int x1)], [.int u3, .ref o], M) _
      refine ml_blk 3 (S' := (36, [(0, .ref o), (1, .int x1)], [.int (8 * x1), .int u3, .ref o], M)) rfl ?_
      refine ml_st (S' := (37, [(0, .ref o), (1, .int x1)], [.int (u3 + (8 * x1)), .ref o], M)) rfl rfl rfl ?_
      refine ml_call (a := [.ref o, .int (u3 + (8 * x1))]) (rest := []) rfl (okc_t rfl rfl rfl hS.1 hY0 (by decide)) rfl rfl (ti_s4 hS.1 hY0 hY1 (by omega)) (fun v5 M6 h7 => ?_)
      obtain ⟨⟨u8, rfl⟩, h7⟩ := h7
      rw [h7]
      show ml _ _ _ (40, [], [.int u8], M) _
      exact ml_ret rfl (rfl) (⟨⟨_, rfl⟩, rfl⟩)
    · have c_13 : ¬ (¬ u1 = 170) := of_decide_eq_false c_13
      refine ml_st (S' := (17, [(0, .ref o), (1, .int x1)], [.ref o], M)) rfl rfl rfl ?_
      refine tg_int rfl hS.1 hY0 (by decide) rfl (fun u9 g10 => ?_)
      show ml _ _ _ (20, [(0, .ref o), (1, .int x1)], [.int u9], M) _
      refine ml_blk 3 (S' := (23, [(0, .ref o), (1, .int x1)], [.int 1, .int (u9 + x1)], M)) rfl ?_
      refine ml_st (S' := (24, [(0, .ref o), (1, .int x1)], [.int ((u9 + x1) - 1)], M)) rfl rfl rfl ?_
      refine ml_st (S' := (40, [], [.int ((u9 + x1) - 1)], M)) rfl rfl rfl ?_
      exact ml_ret rfl (rfl) (⟨⟨_, rfl⟩, rfl⟩)
  · have c_1 : ¬ (¬ x1 = 0) := of_decide_eq_false c_1
    refine ml_st (S' := (5, [(0, .ref o), (1, .int x1)], [.int 0], M)) rfl rfl rfl ?_
    exact ml_ret rfl (rfl) (⟨⟨_, rfl⟩, rfl⟩)
set_option maxHeartbeats 2000000 in
theorem ti_target {g : xe_G} {M : mi_H} {Y : yT} {o b k da n : Nat} {x1 : Int32}  (hW : WF g Y M) (hY0 : Y.1 o = some (5, [b, k])) (hY1 : Y.1 b = some (1, [da, n])) {d : Nat} (hd : 3 ≤ d) : mt (mT g) d 103 [.ref o, .int x1] M (pL M) := by
  obtain ⟨d, rfl⟩ : ∃ e, d = e + 1 := ⟨d - 1, by omega⟩
  have hS : st g Y M M := st.rf hW
  refine mt_in (b := mb_103 g) rfl rfl ?_
  show ml (mT g) d (mb_103 g).2 (0, [(0, .ref o), (1, .int x1)], [], M) _
  refine ml_st (S' := (1, [(0, .ref o), (1, .int x1)], [.ref o], M)) rfl rfl rfl ?_
  refine ml_call (a := [.ref o]) (rest := []) rfl (okc_t rfl rfl rfl hS.1 hY0 (by decide)) rfl rfl (ti_isSwitch hS.1 hY0 hY1 (by omega)) (fun v1 M2 h3 => ?_)
  obtain ⟨⟨u4, rfl, z5⟩, h3⟩ := h3
  rw [h3]
  show ml _ _ _ (4, [(0, .ref o), (1, .int x1)], [.int u4], M) _
  refine ml_if (S1 := (19, [(0, .ref o), (1, .int x1)], [], M)) (S2 := (7, [(0, .ref o), (1, .int x1)], [], M)) rfl rfl rfl (fun c_4 => ?_) (fun c_4 => ?_)
  · have c_4 : ¬ u4 = 0 := of_decide_eq_true c_4
    refine ml_st (S' := (20, [(0, .ref o), (1, .int x1)], [.int x1], M)) rfl rfl rfl ?_
    refine ml_if (S1 := (39, [(0, .ref o), (1, .int x1)], [], M)) (S2 := (23, [(0, .ref o), (1, .int x1)], [], M)) rfl rfl rfl (fun c_20 => ?_) (fun c_20 => ?_)
    · have c_20 : ¬ x1 = 0 := of_decide_eq_true c_20
      refine ml_st (S' := (40, [(0, .ref o), (1, .int x1)], [.ref o], M)) rfl rfl rfl ?_
      refine tg_int rfl hS.1 hY0 (by decide) rfl (fun u6 g7 => ?_)
      show ml _ _ _ (43, [(0, .ref o), (1, .int x1)], [.int u6], M) _
      refine ml_blk 3 (S' := (46, [(0, .ref o), (1, .int x1)], [.ref o, .ref o, .long (Int32.toInt64 u6)], M)) rfl ?_
      refine tg_int rfl hS.1 hY0 (by decide) rfl (fun u8 g9 => ?_)
      show ml _ _ _ (49, [(0, .ref o), (1, .int x1)], [.int u8, .ref o, .long (Int32.toInt64 u6)], M) _
      refine ml_st (S' := (52, [(0, .ref o), (1, .int x1)], [.int 170, .int u8, .ref o, .long (Int32.toInt64 u6)], M)) rfl rfl rfl ?_
      refine ml_if2 (S1 := (69, [(0, .ref o), (1, .int x1)], [.ref o, .long (Int32.toInt64 u6)], M)) (S2 := (55, [(0, .ref o), (1, .int x1)], [.ref o, .long (Int32.toInt64 u6)], M)) rfl rfl rfl (fun c_52 => ?_) (fun c_52 => ?_)
      · have c_52 : ¬ u8 = 170 := of_decide_eq_true c_52
        refine ml_st (S' := (70, [(0, .ref o), (1, .int x1)], [.ref o, .ref o, .long (Int32.toInt64 u6)], M)) rfl rfl rfl ?_
        refine tg_int rfl hS.1 hY0 (by decide) rfl (fun u10 g11 => ?_)
        show ml _ _ _ (73, [(0, .ref o), (1, .int x1)], [.int u10, .ref o, .long (Int32.toInt64 u6)], M) _
        refine ml_blk 3 (S' := (77, [(0, .ref o), (1, .int x1)], [.int 8, .int (u10 + 4), .ref o, .long (Int32.toInt64 u6)], M)) rfl ?_
        refine ml_blk 3 (S' := (80, [], [.int ((u10 + 4) + (8 * x1)), .ref o, .long (Int32.toInt64 u6)], M)) rfl ?_
        refine ml_call (a := [.ref o, .int ((u10 + 4) + (8 * x1))]) (rest := [.long (Int32.toInt64 u6)]) rfl (okc_t rfl rfl rfl hS.1 hY0 (by decide)) rfl rfl (ti_s4 hS.1 hY0 hY1 (by omega)) (fun v12 M13 h14 => ?_)
        obtain ⟨⟨u15, rfl⟩, h14⟩ := h14
        rw [h14]
        show ml _ _ _ (83, [], [.int u15, .long (Int32.toInt64 u6)], M) _
        refine ml_blk 2 (S' := (85, [], [.long ((Int32.toInt64 u6) + (Int32.toInt64 u15))], M)) rfl ?_
        exact ml_ret rfl (rfl) (⟨⟨_, rfl⟩, rfl⟩)
      · have c_52 : ¬ (¬ u8 = 170) := of_decide_eq_false c_52
        refine ml_st (S' := (56, [(0, .ref o), (1, .int x1)], [.ref o, .ref o, .long (Int32.toInt64 u6)], M)) rfl rfl rfl ?_
        refine tg_int rfl hS.1 hY0 (by decide) rfl (fun u16 g17 => ?_)
        show ml _ _ _ (59, [(0, .ref o), (1, .int x1)], [.int u16, .ref o, .long (Int32.toInt64 u6)], M) _
        refine ml_blk 3 (S' := (63, [(0, .ref o), (1, .int x1)], [.int 4, .int (u16 + 8), .ref o, .long (Int32.toInt64 u6)], M)) rfl ?_
        refine ml_blk 3 (S' := (66, [(0, .ref o), (1, .int x1)], [.int ((u16 + 8) + (4 * x1)), .ref o, .long (Int32.toInt64 u6)], M)) rfl ?_
        refine ml_st (S' := (80, [], [.int ((u16 + 8) + (4 * x1)), .ref o, .long (Int32.toInt64 u6)], M)) rfl rfl rfl ?_
        refine ml_call (a := [.ref o, .int ((u16 + 8) + (4 * x1))]) (rest := [.long (Int32.toInt64 u6)]) rfl (okc_t rfl rfl rfl hS.1 hY0 (by decide)) rfl rfl (ti_s4 hS.1 hY0 hY1 (by omega)) (fun v18 M19 h20 => ?_)
        obtain ⟨⟨u21, rfl⟩, h20⟩ := h20
        rw [h20]
        show ml _ _ _ (83, [], [.int u21, .long (Int32.toInt64 u6)], M) _
        refine ml_blk 2 (S' := (85, [], [.long ((Int32.toInt64 u6) + (Int32.toInt64 u21))], M)) rfl ?_
        exact ml_ret rfl (rfl) (⟨⟨_, rfl⟩, rfl⟩)
    · have c_20 : ¬ (¬ x1 = 0) := of_decide_eq_false c_20
      refine ml_st (S' := (24, [(0, .ref o), (1, .int x1)], [.ref o], M)) rfl rfl rfl ?_
      refine tg_int rfl hS.1 hY0 (by decide) rfl (fun u22 g23 => ?_)
      show ml _ _ _ (27, [(0, .ref o), (1, .int x1)], [.int u22], M) _
      refine ml_blk 3 (S' := (30, [(0, .ref o), (1, .int x1)], [.ref o, .ref o, .long (Int32.toInt64 u22)], M)) rfl ?_
      refine tg_int rfl hS.1 hY0 (by decide) rfl (fun u24 g25 => ?_)
      show ml _ _ _ (33, [(0, .ref o), (1, .int x1)], [.int u24, .ref o, .long (Int32.toInt64 u22)], M) _
      refine ml_call (a := [.ref o, .int u24]) (rest := [.long (Int32.toInt64 u22)]) rfl (okc_t rfl rfl rfl hS.1 hY0 (by decide)) rfl rfl (ti_s4 hS.1 hY0 hY1 (by omega)) (fun v26 M27 h28 => ?_)
      obtain ⟨⟨u29, rfl⟩, h28⟩ := h28
      rw [h28]
      show ml _ _ _ (36, [(0, .ref o), (1, .int x1)], [.int u29, .long (Int32.toInt64 u22)], M) _
      refine ml_blk 2 (S' := (38, [(0, .ref o), (1, .int x1)], [.long ((Int32.toInt64 u22) + (Int32.toInt64 u29))], M)) rfl ?_
      exact ml_ret rfl (rfl) (⟨⟨_, rfl⟩, rfl⟩)
  · have c_4 : ¬ (¬ u4 = 0) := of_decide_eq_false c_4
    refine ml_st (S' := (8, [(0, .ref o), (1, .int x1)], [.ref o], M)) rfl rfl rfl ?_
    refine tg_int rfl hS.1 hY0 (by decide) rfl (fun u30 g31 => ?_)
    show ml _ _ _ (11, [(0, .ref o), (1, .int x1)], [.int u30], M) _
    refine ml_blk 2 (S' := (13, [(0, .ref o), (1, .int x1)], [.ref o, .long (Int32.toInt64 u30)], M)) rfl ?_
    refine tg_int rfl hS.1 hY0 (by decide) rfl (fun u32 g33 => ?_)
    show ml _ _ _ (16, [(0, .ref o), (1, .int x1)], [.int u32, .long (Int32.toInt64 u30)], M) _
    refine ml_blk 2 (S' := (18, [(0, .ref o), (1, .int x1)], [.long ((Int32.toInt64 u30) + (Int32.toInt64 u32))], M)) rfl ?_
    exact ml_ret rfl (rfl) (⟨⟨_, rfl⟩, rfl⟩)
set_option maxHeartbeats 2000000 in
theorem ti_isLocalOpcode {g : xe_G} {M : mi_H} {Y : yT} {x1 : Int32}  (hW : WF g Y M) {d : Nat} (hd : 1 ≤ d) : mt (mT g) d 91 [.int x1] M (pZ M) := by
  obtain ⟨d, rfl⟩ : ∃ e, d = e + 1 := ⟨d - 1, by omega⟩
  have hS : st g Y M M := st.rf hW
  refine mt_in (b := mb_91 g) rfl rfl ?_
  show ml (mT g) d (mb_91 g).2 (0, [(0, .int x1)], [], M) _
  refine ml_blk 2 (S' := (3, [(0, .int x1)], [.int 21, .int x1], M)) rfl ?_
  refine ml_if2 (S1 := (12, [(0, .int x1)], [], M)) (S2 := (6, [(0, .int x1)], [], M)) rfl rfl rfl (fun c_3 => ?_) (fun c_3 => ?_)
  · have c_3 : x1 < 21 := of_decide_eq_true c_3
    refine ml_blk 2 (S' := (15, [(0, .int x1)], [.int 54, .int x1], M)) rfl ?_
    refine ml_if2 (S1 := (24, [(0, .int x1)], [], M)) (S2 := (18, [(0, .int x1)], [], M)) rfl rfl rfl (fun c_15 => ?_) (fun c_15 => ?_)
    · have c_15 : x1 < 54 := of_decide_eq_true c_15
      refine ml_blk 2 (S' := (28, [(0, .int x1)], [.int 169, .int x1], M)) rfl ?_
      refine ml_if2 (S1 := (35, [(0, .int x1)], [], M)) (S2 := (31, [], [], M)) rfl rfl rfl (fun c_28 => ?_) (fun c_28 => ?_)
      · have c_28 : ¬ x1 = 169 := of_decide_eq_true c_28
        refine ml_st (S' := (36, [], [.int 0], M)) rfl rfl rfl ?_
        exact ml_ret rfl (r_z (Or.inl rfl)) (⟨⟨_, rfl, Or.inl rfl⟩, rfl⟩)
      · have c_28 : ¬ (¬ x1 = 169) := of_decide_eq_false c_28
        refine ml_st (S' := (32, [], [.int 1], M)) rfl rfl rfl ?_
        refine ml_st (S' := (36, [], [.int 1], M)) rfl rfl rfl ?_
        exact ml_ret rfl (r_z (Or.inr rfl)) (⟨⟨_, rfl, Or.inr rfl⟩, rfl⟩)
    · have c_15 : ¬ (x1 < 54) := of_decide_eq_false c_15
      refine ml_blk 2 (S' := (21, [(0, .int x1)], [.int 58, .int x1], M)) rfl ?_
      refine ml_if2 (S1 := (31, [], [], M)) (S2 := (24, [(0, .int x1)], [], M)) rfl rfl rfl (fun c_21 => ?_) (fun c_21 => ?_)
      · have c_21 : x1 ≤ 58 := of_decide_eq_true c_21
        refine ml_st (S' := (32, [], [.int 1], M)) rfl rfl rfl ?_
        refine ml_st (S' := (36, [], [.int 1], M)) rfl rfl rfl ?_
        exact ml_ret rfl (r_z (Or.inr rfl)) (⟨⟨_, rfl, Or.inr rfl⟩, rfl⟩)
      · have c_21 : ¬ (x1 ≤ 58) := of_decide_eq_false c_21
        refine ml_blk 2 (S' := (28, [(0, .int x1)], [.int 169, .int x1], M)) rfl ?_
        refine ml_if2 (S1 := (35, [(0, .int x1)], [], M)) (S2 := (31, [], [], M)) rfl rfl rfl (fun c_28 => ?_) (fun c_28 => ?_)
        · have c_28 : ¬ x1 = 169 := of_decide_eq_true c_28
          refine ml_st (S' := (36, [], [.int 0], M)) rfl rfl rfl ?_
          exact ml_ret rfl (r_z (Or.inl rfl)) (⟨⟨_, rfl, Or.inl rfl⟩, rfl⟩)
        · have c_28 : ¬ (¬ x1 = 169) := of_decide_eq_false c_28
          refine ml_st (S' := (32, [], [.int 1], M)) rfl rfl rfl ?_
          refine ml_st (S' := (36, [], [.int 1], M)) rfl rfl rfl ?_
          exact ml_ret rfl (r_z (Or.inr rfl)) (⟨⟨_, rfl, Or.inr rfl⟩, rfl⟩)
  · have c_3 : ¬ (x1 < 21) := of_decide_eq_false c_3
    refine ml_blk 2 (S' := (9, [(0, .int x1)], [.int 25, .int x1], M)) rfl ?_
    refine ml_if2 (S1 := (31, [], [], M)) (S2 := (12, [(0, .int x1)], [], M)) rfl rfl rfl (fun c_9 => ?_) (fun c_9 => ?_)
    · have c_9 : x1 ≤ 25 := of_decide_eq_true c_9
      refine ml_st (S' := (32, [], [.int 1], M)) rfl rfl rfl ?_
      refine ml_st (S' := (36, [], [.int 1], M)) rfl rfl rfl ?_
      exact ml_ret rfl (r_z (Or.inr rfl)) (⟨⟨_, rfl, Or.inr rfl⟩, rfl⟩)
    · have c_9 : ¬ (x1 ≤ 25) := of_decide_eq_false c_9
      refine ml_blk 2 (S' := (15, [(0, .int x1)], [.int 54, .int x1], M)) rfl ?_
      refine ml_if2 (S1 := (24, [(0, .int x1)], [], M)) (S2 := (18, [(0, .int x1)], [], M)) rfl rfl rfl (fun c_15 => ?_) (fun c_15 => ?_)
      · have c_15 : x1 < 54 := of_decide_eq_true c_15
        refine ml_blk 2 (S' := (28, [(0, .int x1)], [.int 169, .int x1], M)) rfl ?_
        refine ml_if2 (S1 := (35, [(0, .int x1)], [], M)) (S2 := (31, [], [], M)) rfl rfl rfl (fun c_28 => ?_) (fun c_28 => ?_)
        · have c_28 : ¬ x1 = 169 := of_decide_eq_true c_28
          refine ml_st (S' := (36, [], [.int 0], M)) rfl rfl rfl ?_
          exact ml_ret rfl (r_z (Or.inl rfl)) (⟨⟨_, rfl, Or.inl rfl⟩, rfl⟩)
        · have c_28 : ¬ (¬ x1 = 169) := of_decide_eq_false c_28
          refine ml_st (S' := (32, [], [.int 1], M)) rfl rfl rfl ?_
          refine ml_st (S' := (36, [], [.int 1], M)) rfl rfl rfl ?_
          exact ml_ret rfl (r_z (Or.inr rfl)) (⟨⟨_, rfl, Or.inr rfl⟩, rfl⟩)
      · have c_15 : ¬ (x1 < 54) := of_decide_eq_false c_15
        refine ml_blk 2 (S' := (21, [(0, .int x1)], [.int 58, .int x1], M)) rfl ?_
        refine ml_if2 (S1 := (31, [], [], M)) (S2 := (24, [(0, .int x1)], [], M)) rfl rfl rfl (fun c_21 => ?_) (fun c_21 => ?_)
        · have c_21 : x1 ≤ 58 := of_decide_eq_true c_21
          refine ml_st (S' := (32, [], [.int 1], M)) rfl rfl rfl ?_
          refine ml_st (S' := (36, [], [.int 1], M)) rfl rfl rfl ?_
          exact ml_ret rfl (r_z (Or.inr rfl)) (⟨⟨_, rfl, Or.inr rfl⟩, rfl⟩)
        · have c_21 : ¬ (x1 ≤ 58) := of_decide_eq_false c_21
          refine ml_blk 2 (S' := (28, [(0, .int x1)], [.int 169, .int x1], M)) rfl ?_
          refine ml_if2 (S1 := (35, [(0, .int x1)], [], M)) (S2 := (31, [], [], M)) rfl rfl rfl (fun c_28 => ?_) (fun c_28 => ?_)
          · have c_28 : ¬ x1 = 169 := of_decide_eq_true c_28
            refine ml_st (S' := (36, [], [.int 0], M)) rfl rfl rfl ?_
            exact ml_ret rfl (r_z (Or.inl rfl)) (⟨⟨_, rfl, Or.inl rfl⟩, rfl⟩)
          · have c_28 : ¬ (¬ x1 = 169) := of_decide_eq_false c_28
            refine ml_st (S' := (32, [], [.int 1], M)) rfl rfl rfl ?_
            refine ml_st (S' := (36, [], [.int 1], M)) rfl rfl rfl ?_
            exact ml_ret rfl (r_z (Or.inr rfl)) (⟨⟨_, rfl, Or.inr rfl⟩, rfl⟩)
def pS (M : mi_H) : Option Value → mi_H → Prop := fun v M' => (∃ x : Int32, v = some (.int x) ∧ 1 ≤ x.toInt) ∧ M' = M
set_option maxHeartbeats 2000000 in
theorem ti_sizeOf {g : xe_G} {M : mi_H} {Y : yT} {x1 : Int32}  (hW : WF g Y M) {d : Nat} (hd : 2 ≤ d) : mt (mT g) d 102 [.int x1] M (pS M) := by
  obtain ⟨d, rfl⟩ : ∃ e, d = e + 1 := ⟨d - 1, by omega⟩
  have hS : st g Y M M := st.rf hW
  refine mt_in (b := mb_102 g) rfl rfl ?_
  show ml (mT g) d (mb_102 g).2 (0, [(0, .int x1)], [], M) _
  refine ml_blk 2 (S' := (4, [(0, .int x1)], [.int 153, .int x1], M)) rfl ?_
  have J_14 : ml (mT g) d (mb_102 g).2 (14, [(0, .int x1)], [], M) (pS M) := by
    refine ml_blk 2 (S' := (18, [(0, .int x1)], [.int 178, .int x1], M)) rfl ?_
    have J_30 : ml (mT g) d (mb_102 g).2 (30, [(0, .int x1)], [], M) (pS M) := by
      refine ml_st (S' := (31, [(0, .int x1)], [.int x1], M)) rfl rfl rfl ?_
      refine ml_call (a := [.int x1]) (rest := []) rfl (rfl) rfl rfl (ti_isLocalOpcode hS.1  (by omega)) (fun v1 M2 h3 => ?_)
      obtain ⟨⟨u4, rfl, z5⟩, h3⟩ := h3
      rw [h3]
      show ml _ _ _ (34, [(0, .int x1)], [.int u4], M) _
      refine ml_if (S1 := (39, [(0, .int x1)], [], M)) (S2 := (37, [(0, .int x1)], [], M)) rfl rfl rfl (fun c_34 => ?_) (fun c_34 => ?_)
      · have c_34 : u4 = 0 := of_decide_eq_true c_34
        refine ml_st (S' := (40, [(0, .int x1)], [.int x1], M)) rfl rfl rfl ?_
        refine ml_sw rfl (fun t_40 ht_40 => ?_)
        have kt_40 := ht_40
        have ht_40 : t_40 ∈ [196, 198, 200, 202, 204] := mi_sw_sub ht_40 (by decide)
        simp only [List.mem_cons, List.not_mem_nil, or_false] at ht_40
        rcases ht_40 with rfl | rfl | rfl | rfl | rfl
        · show ml _ _ _ (196, [(0, .int x1)], [], M) _
          refine ml_st (S' := (197, [(0, .int x1)], [.int 2], M)) rfl rfl rfl ?_
          exact ml_ret rfl (rfl) (⟨⟨_, rfl, by decide⟩, rfl⟩)
        · show ml _ _ _ (198, [(0, .int x1)], [], M) _
          refine ml_st (S' := (199, [(0, .int x1)], [.int 3], M)) rfl rfl rfl ?_
          exact ml_ret rfl (rfl) (⟨⟨_, rfl, by decide⟩, rfl⟩)
        · show ml _ _ _ (200, [(0, .int x1)], [], M) _
          refine ml_st (S' := (201, [(0, .int x1)], [.int 4], M)) rfl rfl rfl ?_
          exact ml_ret rfl (rfl) (⟨⟨_, rfl, by decide⟩, rfl⟩)
        · show ml _ _ _ (202, [(0, .int x1)], [], M) _
          refine ml_st (S' := (203, [(0, .int x1)], [.int 5], M)) rfl rfl rfl ?_
          exact ml_ret rfl (rfl) (⟨⟨_, rfl, by decide⟩, rfl⟩)
        · show ml _ _ _ (204, [(0, .int x1)], [], M) _
          refine ml_st (S' := (205, [(0, .int x1)], [.int 1], M)) rfl rfl rfl ?_
          exact ml_ret rfl (rfl) (⟨⟨_, rfl, by decide⟩, rfl⟩)
      · have c_34 : ¬ (u4 = 0) := of_decide_eq_false c_34
        refine ml_st (S' := (38, [(0, .int x1)], [.int 2], M)) rfl rfl rfl ?_
        exact ml_ret rfl (rfl) (⟨⟨_, rfl, by decide⟩, rfl⟩)
    refine ml_if2 (S1 := (30, [(0, .int x1)], [], M)) (S2 := (21, [(0, .int x1)], [], M)) rfl rfl rfl (fun c_18 => ?_) (fun c_18 => ?_)
    · have c_18 : x1 < 178 := of_decide_eq_true c_18
      exact J_30 
    · have c_18 : ¬ (x1 < 178) := of_decide_eq_false c_18
      refine ml_blk 2 (S' := (25, [(0, .int x1)], [.int 184, .int x1], M)) rfl ?_
      refine ml_if2 (S1 := (30, [(0, .int x1)], [], M)) (S2 := (28, [], [], M)) rfl rfl rfl (fun c_25 => ?_) (fun c_25 => ?_)
      · have c_25 : 184 < x1 := of_decide_eq_true c_25
        exact J_30 
      · have c_25 : ¬ (184 < x1) := of_decide_eq_false c_25
        refine ml_st (S' := (29, [], [.int 3], M)) rfl rfl rfl ?_
        exact ml_ret rfl (rfl) (⟨⟨_, rfl, by decide⟩, rfl⟩)
  refine ml_if2 (S1 := (14, [(0, .int x1)], [], M)) (S2 := (7, [(0, .int x1)], [], M)) rfl rfl rfl (fun c_4 => ?_) (fun c_4 => ?_)
  · have c_4 : x1 < 153 := of_decide_eq_true c_4
    exact J_14 
  · have c_4 : ¬ (x1 < 153) := of_decide_eq_false c_4
    refine ml_blk 2 (S' := (11, [(0, .int x1)], [.int 168, .int x1], M)) rfl ?_
    refine ml_if2 (S1 := (28, [], [], M)) (S2 := (14, [(0, .int x1)], [], M)) rfl rfl rfl (fun c_11 => ?_) (fun c_11 => ?_)
    · have c_11 : x1 ≤ 168 := of_decide_eq_true c_11
      refine ml_st (S' := (29, [], [.int 3], M)) rfl rfl rfl ?_
      exact ml_ret rfl (rfl) (⟨⟨_, rfl, by decide⟩, rfl⟩)
    · have c_11 : ¬ (x1 ≤ 168) := of_decide_eq_false c_11
      exact J_14 
set_option maxHeartbeats 2000000 in
theorem ti_isLocalTaken {g : xe_G} {M : mi_H} {Y : yT} {o b k da n : Nat} {x1 : Int32}  (hW : WF g Y M) (hY0 : Y.1 o = some (5, [b, k])) (hY1 : Y.1 b = some (1, [da, n])) {d : Nat} (hd : 1 ≤ d) : mt (mT g) d 92 [.ref o, .int x1] M (kZ g Y o M) := by
  obtain ⟨d, rfl⟩ : ∃ e, d = e + 1 := ⟨d - 1, by omega⟩
  have hS : sk g Y o M M := sk.rf hW
  refine mt_in (b := mb_92 g) rfl rfl ?_
  show ml (mT g) d (mb_92 g).2 (0, [(0, .ref o), (1, .int x1)], [], M) _
  refine ml_st (S' := (1, [(0, .ref o), (1, .int x1)], [.ref o], M)) rfl rfl rfl ?_
  refine tg_int rfl hS.1.1 hY0 (by decide) rfl (fun u1 g2 => ?_)
  show ml _ _ _ (4, [(0, .ref o), (1, .int x1)], [.int u1], M) _
  refine ml_st (S' := (6, [(0, .ref o), (1, .int x1)], [.int 22, .int u1], M)) rfl rfl rfl ?_
  have J_36 : ml (mT g) d (mb_92 g).2 (36, [(0, .ref o), (1, .int x1)], [], M) (kZ g Y o M) := by
    refine ml_st (S' := (37, [(0, .ref o), (1, .int x1)], [.int 1], M)) rfl rfl rfl ?_
    refine ml_st (S' := (41, [(0, .ref o), (1, .int x1)], [.int 1], M)) rfl rfl rfl ?_
    refine ml_st (S' := (42, [(2, .int 1), (0, .ref o), (1, .int x1)], [], M)) rfl rfl rfl ?_
    refine ml_blk 2 (S' := (44, [(2, .int 1), (0, .ref o), (1, .int x1)], [.int 1, .ref o], M)) rfl ?_
    refine ml_if (S1 := (51, [(2, .int 1), (0, .ref o), (1, .int x1)], [.ref o], M)) (S2 := (47, [(2, .int 1), (0, .ref o), (1, .int x1)], [.ref o], M)) rfl rfl rfl (fun c_44 => ?_) (fun c_44 => ?_)
    · have c_44 : 1 = 0 := of_decide_eq_true c_44
      refine ml_st (S' := (52, [(0, .ref o), (1, .int x1)], [.int 1, .ref o], M)) rfl rfl rfl ?_
      refine tp_put rfl hS.1 hY0 (by decide) rfl (⟨_, rfl⟩) rfl rfl (fun M3 hS4 f5 => ?_)
      have hS6 := hS.put hS4 f5 rfl
      show ml _ _ _ (55, [(0, .ref o), (1, .int x1)], [], M3) _
      refine ml_blk 2 (S' := (57, [(0, .ref o), (1, .int x1)], [.int x1, .ref o], M3)) rfl ?_
      refine tp_put rfl hS6.1 hY0 (by decide) rfl (⟨_, rfl⟩) rfl rfl (fun M7 hS8 f9 => ?_)
      have hS10 := hS6.put hS8 f9 rfl
      show ml _ _ _ (60, [(0, .ref o), (1, .int x1)], [], M7) _
      refine ml_st (S' := (61, [(0, .ref o), (1, .int x1)], [.int 1], M7)) rfl rfl rfl ?_
      exact ml_ret rfl (r_z (Or.inr rfl)) (⟨⟨_, rfl, Or.inr rfl⟩, hS10⟩)
    · have c_44 : ¬ (1 = 0) := of_decide_eq_false c_44
      refine ml_st (S' := (48, [(2, .int 1), (0, .ref o), (1, .int x1)], [.int 2, .ref o], M)) rfl rfl rfl ?_
      refine ml_st (S' := (52, [(0, .ref o), (1, .int x1)], [.int 2, .ref o], M)) rfl rfl rfl ?_
      refine tp_put rfl hS.1 hY0 (by decide) rfl (⟨_, rfl⟩) rfl rfl (fun M11 hS12 f13 => ?_)
      have hS14 := hS.put hS12 f13 rfl
      show ml _ _ _ (55, [(0, .ref o), (1, .int x1)], [], M11) _
      refine ml_blk 2 (S' := (57, [(0, .ref o), (1, .int x1)], [.int x1, .ref o], M11)) rfl ?_
      refine tp_put rfl hS14.1 hY0 (by decide) rfl (⟨_, rfl⟩) rfl rfl (fun M15 hS16 f17 => ?_)
      have hS18 := hS14.put hS16 f17 rfl
      show ml _ _ _ (60, [(0, .ref o), (1, .int x1)], [], M15) _
      refine ml_st (S' := (61, [(0, .ref o), (1, .int x1)], [.int 1], M15)) rfl rfl rfl ?_
      exact ml_ret rfl (r_z (Or.inr rfl)) (⟨⟨_, rfl, Or.inr rfl⟩, hS18⟩)
  refine ml_if2 (S1 := (36, [(0, .ref o), (1, .int x1)], [], M)) (S2 := (9, [(0, .ref o), (1, .int x1)], [], M)) rfl rfl rfl (fun c_6 => ?_) (fun c_6 => ?_)
  · have c_6 : u1 = 22 := of_decide_eq_true c_6
    exact J_36 
  · have c_6 : ¬ (u1 = 22) := of_decide_eq_false c_6
    refine ml_st (S' := (10, [(0, .ref o), (1, .int x1)], [.ref o], M)) rfl rfl rfl ?_
    refine ml_get (S' := (13, [(0, .ref o), (1, .int x1)], [.int u1], M)) rfl g2 rfl ?_
    refine ml_st (S' := (15, [(0, .ref o), (1, .int x1)], [.int 24, .int u1], M)) rfl rfl rfl ?_
    refine ml_if2 (S1 := (36, [(0, .ref o), (1, .int x1)], [], M)) (S2 := (18, [(0, .ref o), (1, .int x1)], [], M)) rfl rfl rfl (fun c_15 => ?_) (fun c_15 => ?_)
    · have c_15 : u1 = 24 := of_decide_eq_true c_15
      exact J_36 
    · have c_15 : ¬ (u1 = 24) := of_decide_eq_false c_15
      refine ml_st (S' := (19, [(0, .ref o), (1, .int x1)], [.ref o], M)) rfl rfl rfl ?_
      refine ml_get (S' := (22, [(0, .ref o), (1, .int x1)], [.int u1], M)) rfl g2 rfl ?_
      refine ml_st (S' := (24, [(0, .ref o), (1, .int x1)], [.int 55, .int u1], M)) rfl rfl rfl ?_
      refine ml_if2 (S1 := (36, [(0, .ref o), (1, .int x1)], [], M)) (S2 := (27, [(0, .ref o), (1, .int x1)], [], M)) rfl rfl rfl (fun c_24 => ?_) (fun c_24 => ?_)
      · have c_24 : u1 = 55 := of_decide_eq_true c_24
        exact J_36 
      · have c_24 : ¬ (u1 = 55) := of_decide_eq_false c_24
        refine ml_st (S' := (28, [(0, .ref o), (1, .int x1)], [.ref o], M)) rfl rfl rfl ?_
        refine ml_get (S' := (31, [(0, .ref o), (1, .int x1)], [.int u1], M)) rfl g2 rfl ?_
        refine ml_st (S' := (33, [(0, .ref o), (1, .int x1)], [.int 57, .int u1], M)) rfl rfl rfl ?_
        refine ml_if2 (S1 := (40, [(0, .ref o), (1, .int x1)], [], M)) (S2 := (36, [(0, .ref o), (1, .int x1)], [], M)) rfl rfl rfl (fun c_33 => ?_) (fun c_33 => ?_)
        · have c_33 : ¬ u1 = 57 := of_decide_eq_true c_33
          refine ml_st (S' := (41, [(0, .ref o), (1, .int x1)], [.int 0], M)) rfl rfl rfl ?_
          refine ml_st (S' := (42, [(2, .int 0), (0, .ref o), (1, .int x1)], [], M)) rfl rfl rfl ?_
          refine ml_blk 2 (S' := (44, [(2, .int 0), (0, .ref o), (1, .int x1)], [.int 0, .ref o], M)) rfl ?_
          refine ml_if (S1 := (51, [(2, .int 0), (0, .ref o), (1, .int x1)], [.ref o], M)) (S2 := (47, [(2, .int 0), (0, .ref o), (1, .int x1)], [.ref o], M)) rfl rfl rfl (fun c_44 => ?_) (fun c_44 => ?_)
          · have c_44 : 0 = 0 := of_decide_eq_true c_44
            refine ml_st (S' := (52, [(0, .ref o), (1, .int x1)], [.int 1, .ref o], M)) rfl rfl rfl ?_
            refine tp_put rfl hS.1 hY0 (by decide) rfl (⟨_, rfl⟩) rfl rfl (fun M19 hS20 f21 => ?_)
            have hS22 := hS.put hS20 f21 rfl
            show ml _ _ _ (55, [(0, .ref o), (1, .int x1)], [], M19) _
            refine ml_blk 2 (S' := (57, [(0, .ref o), (1, .int x1)], [.int x1, .ref o], M19)) rfl ?_
            refine tp_put rfl hS22.1 hY0 (by decide) rfl (⟨_, rfl⟩) rfl rfl (fun M23 hS24 f25 => ?_)
            have hS26 := hS22.put hS24 f25 rfl
            show ml _ _ _ (60, [(0, .ref o), (1, .int x1)], [], M23) _
            refine ml_st (S' := (61, [(0, .ref o), (1, .int x1)], [.int 1], M23)) rfl rfl rfl ?_
            exact ml_ret rfl (r_z (Or.inr rfl)) (⟨⟨_, rfl, Or.inr rfl⟩, hS26⟩)
          · have c_44 : ¬ (0 = 0) := of_decide_eq_false c_44
            refine ml_st (S' := (48, [(2, .int 0), (0, .ref o), (1, .int x1)], [.int 2, .ref o], M)) rfl rfl rfl ?_
            refine ml_st (S' := (52, [(0, .ref o), (1, .int x1)], [.int 2, .ref o], M)) rfl rfl rfl ?_
            refine tp_put rfl hS.1 hY0 (by decide) rfl (⟨_, rfl⟩) rfl rfl (fun M27 hS28 f29 => ?_)
            have hS30 := hS.put hS28 f29 rfl
            show ml _ _ _ (55, [(0, .ref o), (1, .int x1)], [], M27) _
            refine ml_blk 2 (S' := (57, [(0, .ref o), (1, .int x1)], [.int x1, .ref o], M27)) rfl ?_
            refine tp_put rfl hS30.1 hY0 (by decide) rfl (⟨_, rfl⟩) rfl rfl (fun M31 hS32 f33 => ?_)
            have hS34 := hS30.put hS32 f33 rfl
            show ml _ _ _ (60, [(0, .ref o), (1, .int x1)], [], M31) _
            refine ml_st (S' := (61, [(0, .ref o), (1, .int x1)], [.int 1], M31)) rfl rfl rfl ?_
            exact ml_ret rfl (r_z (Or.inr rfl)) (⟨⟨_, rfl, Or.inr rfl⟩, hS34⟩)
        · have c_33 : ¬ (¬ u1 = 57) := of_decide_eq_false c_33
          exact J_36 
set_option maxHeartbeats 2000000 in
theorem ti_isShortLocalTaken {g : xe_G} {M : mi_H} {Y : yT} {o b k da n : Nat} {x1 x2 : Int32}  (hW : WF g Y M) (hY0 : Y.1 o = some (5, [b, k])) (hY1 : Y.1 b = some (1, [da, n])) {d : Nat} (hd : 2 ≤ d) : mt (mT g) d 94 [.ref o, .int x1, .int x2] M (kZ g Y o M) := by
  obtain ⟨d, rfl⟩ : ∃ e, d = e + 1 := ⟨d - 1, by omega⟩
  have hS : sk g Y o M M := sk.rf hW
  refine mt_in (b := mb_94 g) rfl rfl ?_
  show ml (mT g) d (mb_94 g).2 (0, [(0, .ref o), (1, .int x1), (2, .int x2)], [], M) _
  refine ml_blk 3 (S' := (3, [(0, .ref o), (1, .int x1), (2, .int x2)], [.int x1, .int x2, .ref o], M)) rfl ?_
  refine ml_st (S' := (4, [(0, .ref o), (1, .int x1), (2, .int x2)], [.int 4, .int x1, .int x2, .ref o], M)) rfl rfl rfl ?_
  refine ml_blk 2 (S' := (6, [(0, .ref o), (1, .int x1), (2, .int x2)], [.int (x2 + (x1 / 4)), .ref o], M)) rfl ?_
  refine tp_put rfl hS.1 hY0 (by decide) rfl (⟨_, rfl⟩) rfl rfl (fun M1 hS2 f3 => ?_)
  have hS4 := hS.put hS2 f3 rfl
  show ml _ _ _ (9, [(0, .ref o), (1, .int x1), (2, .int x2)], [], M1) _
  refine ml_blk 3 (S' := (12, [(0, .ref o), (1, .int x1), (2, .int x2)], [.int 4, .int x1, .ref o], M1)) rfl ?_
  refine ml_st (S' := (13, [(0, .ref o), (1, .int x1), (2, .int x2)], [.int (x1 - x1 / 4 * 4), .ref o], M1)) rfl rfl rfl ?_
  refine ml_call (a := [.ref o, .int (x1 - x1 / 4 * 4)]) (rest := []) rfl (okc_t rfl rfl rfl hS4.1.1 hY0 (by decide)) rfl rfl (ti_isLocalTaken hS4.1.1 hY0 hY1 (by omega)) (fun v5 M6 h7 => ?_)
  obtain ⟨⟨u8, rfl, z9⟩, h7⟩ := h7
  have hS10 := hS4.tr h7
  show ml _ _ _ (16, [(0, .ref o), (1, .int x1), (2, .int x2)], [.int u8], M6) _
  exact ml_ret rfl (r_z (z9)) (⟨⟨_, rfl, z9⟩, hS10⟩)
set_option maxHeartbeats 2000000 in
theorem ti_isJumpTaken {g : xe_G} {M : mi_H} {Y : yT} {o b k da n : Nat} {x1 x2 : Int32}  (hW : WF g Y M) (hY0 : Y.1 o = some (5, [b, k])) (hY1 : Y.1 b = some (1, [da, n])) {d : Nat} (hd : 1 ≤ d) : mt (mT g) d 90 [.ref o, .int x1, .int x2] M (kZ g Y o M) := by
  obtain ⟨d, rfl⟩ : ∃ e, d = e + 1 := ⟨d - 1, by omega⟩
  have hS : sk g Y o M M := sk.rf hW
  refine mt_in (b := mb_90 g) rfl rfl ?_
  show ml (mT g) d (mb_90 g).2 (0, [(0, .ref o), (1, .int x1), (2, .int x2)], [], M) _
  refine ml_blk 2 (S' := (2, [(0, .ref o), (1, .int x1), (2, .int x2)], [.int x2, .ref o], M)) rfl ?_
  refine tp_put rfl hS.1 hY0 (by decide) rfl (⟨_, rfl⟩) rfl rfl (fun M1 hS2 f3 => ?_)
  have hS4 := hS.put hS2 f3 rfl
  show ml _ _ _ (5, [(0, .ref o), (1, .int x1), (2, .int x2)], [], M1) _
  refine ml_blk 2 (S' := (7, [(0, .ref o), (1, .int x1), (2, .int x2)], [.int x1, .ref o], M1)) rfl ?_
  refine tp_put rfl hS4.1 hY0 (by decide) rfl (⟨_, rfl⟩) rfl rfl (fun M5 hS6 f7 => ?_)
  have hS8 := hS4.put hS6 f7 rfl
  show ml _ _ _ (10, [(0, .ref o), (1, .int x1), (2, .int x2)], [], M5) _
  refine ml_blk 2 (S' := (12, [(0, .ref o), (1, .int x1), (2, .int x2)], [.int 1, .ref o], M5)) rfl ?_
  refine tp_put rfl hS8.1 hY0 (by decide) rfl (⟨_, rfl⟩) rfl rfl (fun M9 hS10 f11 => ?_)
  have hS12 := hS8.put hS10 f11 rfl
  show ml _ _ _ (15, [(0, .ref o), (1, .int x1), (2, .int x2)], [], M9) _
  refine ml_st (S' := (16, [(0, .ref o), (1, .int x1), (2, .int x2)], [.int 1], M9)) rfl rfl rfl ?_
  exact ml_ret rfl (r_z (Or.inr rfl)) (⟨⟨_, rfl, Or.inr rfl⟩, hS12⟩)
set_option maxHeartbeats 2000000 in
theorem ti_isIndexTaken {g : xe_G} {M : mi_H} {Y : yT} {o b k da n : Nat}  (hW : WF g Y M) (hY0 : Y.1 o = some (5, [b, k])) (hY1 : Y.1 b = some (1, [da, n])) {d : Nat} (hd : 3 ≤ d) : mt (mT g) d 88 [.ref o] M (kZ g Y o M) := by
  obtain ⟨d, rfl⟩ : ∃ e, d = e + 1 := ⟨d - 1, by omega⟩
  have hS : sk g Y o M M := sk.rf hW
  refine mt_in (b := mb_88 g) rfl rfl ?_
  show ml (mT g) d (mb_88 g).2 (0, [(0, .ref o)], [], M) _
  refine ml_st (S' := (1, [(0, .ref o)], [.ref o], M)) rfl rfl rfl ?_
  refine tg_int rfl hS.1.1 hY0 (by decide) rfl (fun u1 g2 => ?_)
  show ml _ _ _ (4, [(0, .ref o)], [.int u1], M) _
  refine ml_st (S' := (5, [(0, .ref o)], [.int 3, .int u1], M)) rfl rfl rfl ?_
  refine ml_if2 (S1 := (10, [(0, .ref o)], [], M)) (S2 := (8, [(0, .ref o)], [], M)) rfl rfl rfl (fun c_5 => ?_) (fun c_5 => ?_)
  · have c_5 : 3 ≤ u1 := of_decide_eq_true c_5
    refine ml_blk 3 (S' := (13, [(0, .ref o)], [.ref o, .ref o, .ref o], M)) rfl ?_
    refine tg_int rfl hS.1.1 hY0 (by decide) rfl (fun u3 g4 => ?_)
    show ml _ _ _ (16, [(0, .ref o)], [.int u3, .ref o, .ref o], M) _
    refine ml_blk 2 (S' := (18, [(0, .ref o)], [.int (u3 + 1), .ref o, .ref o], M)) rfl ?_
    refine ml_call (a := [.ref o, .int (u3 + 1)]) (rest := [.ref o]) rfl (okc_t rfl rfl rfl hS.1.1 hY0 (by decide)) rfl rfl (ti_u2 hS.1.1 hY0 hY1 (by omega)) (fun v5 M6 h7 => ?_)
    obtain ⟨⟨u8, rfl⟩, h7⟩ := h7
    rw [h7]
    show ml _ _ _ (21, [(0, .ref o)], [.int u8, .ref o], M) _
    refine tp_put rfl hS.1 hY0 (by decide) rfl (⟨_, rfl⟩) rfl rfl (fun M9 hS10 f11 => ?_)
    have hS12 := hS.put hS10 f11 rfl
    show ml _ _ _ (24, [(0, .ref o)], [], M9) _
    refine ml_st (S' := (25, [(0, .ref o)], [.ref o], M9)) rfl rfl rfl ?_
    refine tg_int rfl hS12.1.1 hY0 (by decide) rfl (fun u13 g14 => ?_)
    show ml _ _ _ (28, [(0, .ref o)], [.int u13], M9) _
    refine ml_sw rfl (fun t_28 ht_28 => ?_)
    have kt_28 := ht_28
    have ht_28 : t_28 ∈ [64, 80, 113, 132] := mi_sw_sub ht_28 (by decide)
    simp only [List.mem_cons, List.not_mem_nil, or_false] at ht_28
    rcases ht_28 with rfl | rfl | rfl | rfl
    · show ml _ _ _ (64, [(0, .ref o)], [], M9) _
      refine ml_blk 3 (S' := (67, [(0, .ref o)], [.ref o, .ref o, .ref o], M9)) rfl ?_
      refine tg_int rfl hS12.1.1 hY0 (by decide) rfl (fun u15 g16 => ?_)
      show ml _ _ _ (70, [(0, .ref o)], [.int u15, .ref o, .ref o], M9) _
      refine ml_blk 2 (S' := (72, [(0, .ref o)], [.int (u15 + 3), .ref o, .ref o], M9)) rfl ?_
      refine ml_call (a := [.ref o, .int (u15 + 3)]) (rest := [.ref o]) rfl (okc_t rfl rfl rfl hS12.1.1 hY0 (by decide)) rfl rfl (ti_u1 hS12.1.1 hY0 hY1 (by omega)) (fun v17 M18 h19 => ?_)
      obtain ⟨⟨u20, rfl⟩, h19⟩ := h19
      rw [h19]
      show ml _ _ _ (75, [(0, .ref o)], [.int u20, .ref o], M9) _
      refine tp_put rfl hS12.1 hY0 (by decide) rfl (⟨_, rfl⟩) rfl rfl (fun M21 hS22 f23 => ?_)
      have hS24 := hS12.put hS22 f23 rfl
      show ml _ _ _ (78, [(0, .ref o)], [], M21) _
      refine ml_st (S' := (79, [(0, .ref o)], [.int 1], M21)) rfl rfl rfl ?_
      exact ml_ret rfl (r_z (Or.inr rfl)) (⟨⟨_, rfl, Or.inr rfl⟩, hS24⟩)
    · show ml _ _ _ (80, [(0, .ref o)], [], M9) _
      refine ml_blk 3 (S' := (83, [(0, .ref o)], [.ref o, .ref o, .ref o], M9)) rfl ?_
      refine tg_int rfl hS12.1.1 hY0 (by decide) rfl (fun u25 g26 => ?_)
      show ml _ _ _ (86, [(0, .ref o)], [.int u25, .ref o, .ref o], M9) _
      refine ml_blk 2 (S' := (88, [(0, .ref o)], [.int (u25 + 3), .ref o, .ref o], M9)) rfl ?_
      refine ml_call (a := [.ref o, .int (u25 + 3)]) (rest := [.ref o]) rfl (okc_t rfl rfl rfl hS12.1.1 hY0 (by decide)) rfl rfl (ti_u1 hS12.1.1 hY0 hY1 (by omega)) (fun v27 M28 h29 => ?_)
      obtain ⟨⟨u30, rfl⟩, h29⟩ := h29
      rw [h29]
      show ml _ _ _ (91, [(0, .ref o)], [.int u30, .ref o], M9) _
      refine tp_put rfl hS12.1 hY0 (by decide) rfl (⟨_, rfl⟩) rfl rfl (fun M31 hS32 f33 => ?_)
      have hS34 := hS12.put hS32 f33 rfl
      show ml _ _ _ (94, [(0, .ref o)], [], M31) _
      refine ml_blk 2 (S' := (96, [(0, .ref o)], [.ref o, .ref o], M31)) rfl ?_
      refine tg_int rfl hS34.1.1 hY0 (by decide) rfl (fun u35 g36 => ?_)
      show ml _ _ _ (99, [(0, .ref o)], [.int u35, .ref o], M31) _
      refine ml_blk 2 (S' := (101, [(0, .ref o)], [.int (u35 + 4), .ref o], M31)) rfl ?_
      refine ml_call (a := [.ref o, .int (u35 + 4)]) (rest := []) rfl (okc_t rfl rfl rfl hS34.1.1 hY0 (by decide)) rfl rfl (ti_u1 hS34.1.1 hY0 hY1 (by omega)) (fun v37 M38 h39 => ?_)
      obtain ⟨⟨u40, rfl⟩, h39⟩ := h39
      rw [h39]
      show ml _ _ _ (104, [(0, .ref o)], [.int u40], M31) _
      refine ml_if (S1 := (111, [(0, .ref o)], [], M31)) (S2 := (107, [(0, .ref o)], [], M31)) rfl rfl rfl (fun c_104 => ?_) (fun c_104 => ?_)
      · have c_104 : ¬ u40 = 0 := of_decide_eq_true c_104
        refine ml_st (S' := (112, [], [.int 0], M31)) rfl rfl rfl ?_
        exact ml_ret rfl (r_z (Or.inl rfl)) (⟨⟨_, rfl, Or.inl rfl⟩, hS34⟩)
      · have c_104 : ¬ (¬ u40 = 0) := of_decide_eq_false c_104
        refine ml_st (S' := (108, [(0, .ref o)], [.int 1], M31)) rfl rfl rfl ?_
        refine ml_st (S' := (112, [], [.int 1], M31)) rfl rfl rfl ?_
        exact ml_ret rfl (r_z (Or.inr rfl)) (⟨⟨_, rfl, Or.inr rfl⟩, hS34⟩)
    · show ml _ _ _ (113, [(0, .ref o)], [], M9) _
      refine ml_blk 2 (S' := (115, [(0, .ref o)], [.ref o, .ref o], M9)) rfl ?_
      refine tg_int rfl hS12.1.1 hY0 (by decide) rfl (fun u41 g42 => ?_)
      show ml _ _ _ (118, [(0, .ref o)], [.int u41, .ref o], M9) _
      refine ml_blk 2 (S' := (120, [(0, .ref o)], [.int (u41 + 3), .ref o], M9)) rfl ?_
      refine ml_call (a := [.ref o, .int (u41 + 3)]) (rest := []) rfl (okc_t rfl rfl rfl hS12.1.1 hY0 (by decide)) rfl rfl (ti_u2 hS12.1.1 hY0 hY1 (by omega)) (fun v43 M44 h45 => ?_)
      obtain ⟨⟨u46, rfl⟩, h45⟩ := h45
      rw [h45]
      show ml _ _ _ (123, [(0, .ref o)], [.int u46], M9) _
      refine ml_if (S1 := (130, [(0, .ref o)], [], M9)) (S2 := (126, [(0, .ref o)], [], M9)) rfl rfl rfl (fun c_123 => ?_) (fun c_123 => ?_)
      · have c_123 : ¬ u46 = 0 := of_decide_eq_true c_123
        refine ml_st (S' := (131, [], [.int 0], M9)) rfl rfl rfl ?_
        exact ml_ret rfl (r_z (Or.inl rfl)) (⟨⟨_, rfl, Or.inl rfl⟩, hS12⟩)
      · have c_123 : ¬ (¬ u46 = 0) := of_decide_eq_false c_123
        refine ml_st (S' := (127, [(0, .ref o)], [.int 1], M9)) rfl rfl rfl ?_
        refine ml_st (S' := (131, [], [.int 1], M9)) rfl rfl rfl ?_
        exact ml_ret rfl (r_z (Or.inr rfl)) (⟨⟨_, rfl, Or.inr rfl⟩, hS12⟩)
    · show ml _ _ _ (132, [(0, .ref o)], [], M9) _
      refine ml_st (S' := (133, [(0, .ref o)], [.int 1], M9)) rfl rfl rfl ?_
      exact ml_ret rfl (r_z (Or.inr rfl)) (⟨⟨_, rfl, Or.inr rfl⟩, hS12⟩)
  · have c_5 : ¬ (3 ≤ u1) := of_decide_eq_false c_5
    refine ml_st (S' := (9, [(0, .ref o)], [.int 1], M)) rfl rfl rfl ?_
    exact ml_ret rfl (r_z (Or.inr rfl)) (⟨⟨_, rfl, Or.inr rfl⟩, hS⟩)
set_option maxHeartbeats 2000000 in
theorem ti_areOperandsTaken {g : xe_G} {M : mi_H} {Y : yT} {o b k da n : Nat}  (hW : WF g Y M) (hY0 : Y.1 o = some (5, [b, k])) (hY1 : Y.1 b = some (1, [da, n])) {d : Nat} (hd : 4 ≤ d) : mt (mT g) d 87 [.ref o] M (kZ g Y o M) := by
  obtain ⟨d, rfl⟩ : ∃ e, d = e + 1 := ⟨d - 1, by omega⟩
  have hS : sk g Y o M M := sk.rf hW
  refine mt_in (b := mb_87 g) rfl rfl ?_
  show ml (mT g) d (mb_87 g).2 (0, [(0, .ref o)], [], M) _
  refine ml_st (S' := (1, [(0, .ref o)], [.ref o], M)) rfl rfl rfl ?_
  refine tg_int rfl hS.1.1 hY0 (by decide) rfl (fun u1 g2 => ?_)
  show ml _ _ _ (4, [(0, .ref o)], [.int u1], M) _
  refine ml_st (S' := (6, [(0, .ref o)], [.int 26, .int u1], M)) rfl rfl rfl ?_
  have J_32 : ml (mT g) d (mb_87 g).2 (32, [(0, .ref o)], [], M) (kZ g Y o M) := by
    refine ml_st (S' := (33, [(0, .ref o)], [.ref o], M)) rfl rfl rfl ?_
    refine ml_get (S' := (36, [(0, .ref o)], [.int u1], M)) rfl g2 rfl ?_
    refine ml_st (S' := (38, [(0, .ref o)], [.int 59, .int u1], M)) rfl rfl rfl ?_
    have J_64 : ml (mT g) d (mb_87 g).2 (64, [(0, .ref o)], [], M) (kZ g Y o M) := by
      refine ml_st (S' := (65, [(0, .ref o)], [.ref o], M)) rfl rfl rfl ?_
      refine ml_get (S' := (68, [(0, .ref o)], [.int u1], M)) rfl g2 rfl ?_
      refine ml_call (a := [.int u1]) (rest := []) rfl (rfl) rfl rfl (ti_isLocalOpcode hS.1.1  (by omega)) (fun v3 M4 h5 => ?_)
      obtain ⟨⟨u6, rfl, z7⟩, h5⟩ := h5
      rw [h5]
      show ml _ _ _ (71, [(0, .ref o)], [.int u6], M) _
      refine ml_if (S1 := (89, [(0, .ref o)], [], M)) (S2 := (74, [(0, .ref o)], [], M)) rfl rfl rfl (fun c_71 => ?_) (fun c_71 => ?_)
      · have c_71 : u6 = 0 := of_decide_eq_true c_71
        refine ml_st (S' := (90, [(0, .ref o)], [.ref o], M)) rfl rfl rfl ?_
        refine ml_get (S' := (93, [(0, .ref o)], [.int u1], M)) rfl g2 rfl ?_
        refine ml_st (S' := (96, [(0, .ref o)], [.int 153, .int u1], M)) rfl rfl rfl ?_
        have J_109 : ml (mT g) d (mb_87 g).2 (109, [(0, .ref o)], [], M) (kZ g Y o M) := by
          refine ml_st (S' := (110, [(0, .ref o)], [.ref o], M)) rfl rfl rfl ?_
          refine ml_get (S' := (113, [(0, .ref o)], [.int u1], M)) rfl g2 rfl ?_
          refine ml_st (S' := (116, [(0, .ref o)], [.int 198, .int u1], M)) rfl rfl rfl ?_
          refine ml_if2 (S1 := (129, [(0, .ref o)], [], M)) (S2 := (119, [(0, .ref o)], [], M)) rfl rfl rfl (fun c_116 => ?_) (fun c_116 => ?_)
          · have c_116 : u1 = 198 := of_decide_eq_true c_116
            refine ml_blk 3 (S' := (132, [(0, .ref o)], [.ref o, .ref o, .ref o], M)) rfl ?_
            refine tg_int rfl hS.1.1 hY0 (by decide) rfl (fun u8 g9 => ?_)
            show ml _ _ _ (135, [(0, .ref o)], [.int u8, .ref o, .ref o], M) _
            refine ml_blk 2 (S' := (137, [(0, .ref o)], [.int (u8 + 1), .ref o, .ref o], M)) rfl ?_
            refine ml_call (a := [.ref o, .int (u8 + 1)]) (rest := [.ref o]) rfl (okc_t rfl rfl rfl hS.1.1 hY0 (by decide)) rfl rfl (ti_u2 hS.1.1 hY0 hY1 (by omega)) (fun v10 M11 h12 => ?_)
            obtain ⟨⟨u13, rfl⟩, h12⟩ := h12
            rw [h12]
            show ml _ _ _ (140, [(0, .ref o)], [.int u13, .ref o], M) _
            refine ml_blk 2 (S' := (142, [(0, .ref o)], [.ref o, .int (u13.toInt16.toInt32), .ref o], M)) rfl ?_
            refine ml_get (S' := (145, [(0, .ref o)], [.int u1, .int (u13.toInt16.toInt32), .ref o], M)) rfl g2 rfl ?_
            refine ml_call (a := [.ref o, .int (u13.toInt16.toInt32), .int u1]) (rest := []) rfl (okc_t rfl rfl rfl hS.1.1 hY0 (by decide)) rfl rfl (ti_isJumpTaken hS.1.1 hY0 hY1 (by omega)) (fun v14 M15 h16 => ?_)
            obtain ⟨⟨u17, rfl, z18⟩, h16⟩ := h16
            have hS19 := hS.tr h16
            show ml _ _ _ (148, [(0, .ref o)], [.int u17], M15) _
            exact ml_ret rfl (r_z (z18)) (⟨⟨_, rfl, z18⟩, hS19⟩)
          · have c_116 : ¬ (u1 = 198) := of_decide_eq_false c_116
            refine ml_st (S' := (120, [(0, .ref o)], [.ref o], M)) rfl rfl rfl ?_
            refine ml_get (S' := (123, [(0, .ref o)], [.int u1], M)) rfl g2 rfl ?_
            refine ml_st (S' := (126, [(0, .ref o)], [.int 199, .int u1], M)) rfl rfl rfl ?_
            refine ml_if2 (S1 := (149, [(0, .ref o)], [], M)) (S2 := (129, [(0, .ref o)], [], M)) rfl rfl rfl (fun c_126 => ?_) (fun c_126 => ?_)
            · have c_126 : ¬ u1 = 199 := of_decide_eq_true c_126
              refine ml_st (S' := (150, [(0, .ref o)], [.ref o], M)) rfl rfl rfl ?_
              refine ml_get (S' := (153, [(0, .ref o)], [.int u1], M)) rfl g2 rfl ?_
              refine ml_sw rfl (fun t_153 ht_153 => ?_)
              have kt_153 := ht_153
              have ht_153 : t_153 ∈ [228, 245, 262, 278, 300, 330, 348, 366] := mi_sw_sub ht_153 (by decide)
              simp only [List.mem_cons, List.not_mem_nil, or_false] at ht_153
              rcases ht_153 with rfl | rfl | rfl | rfl | rfl | rfl | rfl | rfl
              · show ml _ _ _ (228, [(0, .ref o)], [], M) _
                refine ml_blk 3 (S' := (231, [(0, .ref o)], [.ref o, .ref o, .ref o], M)) rfl ?_
                refine tg_int rfl hS.1.1 hY0 (by decide) rfl (fun u20 g21 => ?_)
                show ml _ _ _ (234, [(0, .ref o)], [.int u20, .ref o, .ref o], M) _
                refine ml_blk 2 (S' := (236, [(0, .ref o)], [.int (u20 + 1), .ref o, .ref o], M)) rfl ?_
                refine ml_call (a := [.ref o, .int (u20 + 1)]) (rest := [.ref o]) rfl (okc_t rfl rfl rfl hS.1.1 hY0 (by decide)) rfl rfl (ti_u1 hS.1.1 hY0 hY1 (by omega)) (fun v22 M23 h24 => ?_)
                obtain ⟨⟨u25, rfl⟩, h24⟩ := h24
                rw [h24]
                show ml _ _ _ (239, [(0, .ref o)], [.int u25, .ref o], M) _
                refine ml_st (S' := (240, [(0, .ref o)], [.int (u25.toInt8.toInt32), .ref o], M)) rfl rfl rfl ?_
                refine tp_put rfl hS.1 hY0 (by decide) rfl (⟨_, rfl⟩) rfl rfl (fun M26 hS27 f28 => ?_)
                have hS29 := hS.put hS27 f28 rfl
                show ml _ _ _ (243, [(0, .ref o)], [], M26) _
                refine ml_st (S' := (244, [(0, .ref o)], [.int 1], M26)) rfl rfl rfl ?_
                exact ml_ret rfl (r_z (Or.inr rfl)) (⟨⟨_, rfl, Or.inr rfl⟩, hS29⟩)
              · show ml _ _ _ (245, [(0, .ref o)], [], M) _
                refine ml_blk 3 (S' := (248, [(0, .ref o)], [.ref o, .ref o, .ref o], M)) rfl ?_
                refine tg_int rfl hS.1.1 hY0 (by decide) rfl (fun u30 g31 => ?_)
                show ml _ _ _ (251, [(0, .ref o)], [.int u30, .ref o, .ref o], M) _
                refine ml_blk 2 (S' := (253, [(0, .ref o)], [.int (u30 + 1), .ref o, .ref o], M)) rfl ?_
                refine ml_call (a := [.ref o, .int (u30 + 1)]) (rest := [.ref o]) rfl (okc_t rfl rfl rfl hS.1.1 hY0 (by decide)) rfl rfl (ti_u2 hS.1.1 hY0 hY1 (by omega)) (fun v32 M33 h34 => ?_)
                obtain ⟨⟨u35, rfl⟩, h34⟩ := h34
                rw [h34]
                show ml _ _ _ (256, [(0, .ref o)], [.int u35, .ref o], M) _
                refine ml_st (S' := (257, [(0, .ref o)], [.int (u35.toInt16.toInt32), .ref o], M)) rfl rfl rfl ?_
                refine tp_put rfl hS.1 hY0 (by decide) rfl (⟨_, rfl⟩) rfl rfl (fun M36 hS37 f38 => ?_)
                have hS39 := hS.put hS37 f38 rfl
                show ml _ _ _ (260, [(0, .ref o)], [], M36) _
                refine ml_st (S' := (261, [(0, .ref o)], [.int 1], M36)) rfl rfl rfl ?_
                exact ml_ret rfl (r_z (Or.inr rfl)) (⟨⟨_, rfl, Or.inr rfl⟩, hS39⟩)
              · show ml _ _ _ (262, [(0, .ref o)], [], M) _
                refine ml_blk 3 (S' := (265, [(0, .ref o)], [.ref o, .ref o, .ref o], M)) rfl ?_
                refine tg_int rfl hS.1.1 hY0 (by decide) rfl (fun u40 g41 => ?_)
                show ml _ _ _ (268, [(0, .ref o)], [.int u40, .ref o, .ref o], M) _
                refine ml_blk 2 (S' := (270, [(0, .ref o)], [.int (u40 + 1), .ref o, .ref o], M)) rfl ?_
                refine ml_call (a := [.ref o, .int (u40 + 1)]) (rest := [.ref o]) rfl (okc_t rfl rfl rfl hS.1.1 hY0 (by decide)) rfl rfl (ti_u1 hS.1.1 hY0 hY1 (by omega)) (fun v42 M43 h44 => ?_)
                obtain ⟨⟨u45, rfl⟩, h44⟩ := h44
                rw [h44]
                show ml _ _ _ (273, [(0, .ref o)], [.int u45, .ref o], M) _
                refine tp_put rfl hS.1 hY0 (by decide) rfl (⟨_, rfl⟩) rfl rfl (fun M46 hS47 f48 => ?_)
                have hS49 := hS.put hS47 f48 rfl
                show ml _ _ _ (276, [(0, .ref o)], [], M46) _
                refine ml_st (S' := (277, [(0, .ref o)], [.int 1], M46)) rfl rfl rfl ?_
                exact ml_ret rfl (r_z (Or.inr rfl)) (⟨⟨_, rfl, Or.inr rfl⟩, hS49⟩)
              · show ml _ _ _ (278, [(0, .ref o)], [], M) _
                refine ml_blk 2 (S' := (281, [(0, .ref o)], [.int 18, .ref o], M)) rfl ?_
                refine tp_put rfl hS.1 hY0 (by decide) rfl (⟨_, rfl⟩) rfl rfl (fun M50 hS51 f52 => ?_)
                have hS53 := hS.put hS51 f52 rfl
                show ml _ _ _ (284, [(0, .ref o)], [], M50) _
                refine ml_blk 3 (S' := (287, [(0, .ref o)], [.ref o, .ref o, .ref o], M50)) rfl ?_
                refine tg_int rfl hS53.1.1 hY0 (by decide) rfl (fun u54 g55 => ?_)
                show ml _ _ _ (290, [(0, .ref o)], [.int u54, .ref o, .ref o], M50) _
                refine ml_blk 2 (S' := (292, [(0, .ref o)], [.int (u54 + 1), .ref o, .ref o], M50)) rfl ?_
                refine ml_call (a := [.ref o, .int (u54 + 1)]) (rest := [.ref o]) rfl (okc_t rfl rfl rfl hS53.1.1 hY0 (by decide)) rfl rfl (ti_u2 hS53.1.1 hY0 hY1 (by omega)) (fun v56 M57 h58 => ?_)
                obtain ⟨⟨u59, rfl⟩, h58⟩ := h58
                rw [h58]
                show ml _ _ _ (295, [(0, .ref o)], [.int u59, .ref o], M50) _
                refine tp_put rfl hS53.1 hY0 (by decide) rfl (⟨_, rfl⟩) rfl rfl (fun M60 hS61 f62 => ?_)
                have hS63 := hS53.put hS61 f62 rfl
                show ml _ _ _ (298, [(0, .ref o)], [], M60) _
                refine ml_st (S' := (299, [(0, .ref o)], [.int 1], M60)) rfl rfl rfl ?_
                exact ml_ret rfl (r_z (Or.inr rfl)) (⟨⟨_, rfl, Or.inr rfl⟩, hS63⟩)
              · show ml _ _ _ (300, [(0, .ref o)], [], M) _
                refine ml_blk 3 (S' := (303, [(0, .ref o)], [.ref o, .ref o, .ref o], M)) rfl ?_
                refine tg_int rfl hS.1.1 hY0 (by decide) rfl (fun u64 g65 => ?_)
                show ml _ _ _ (306, [(0, .ref o)], [.int u64, .ref o, .ref o], M) _
                refine ml_blk 2 (S' := (308, [(0, .ref o)], [.int (u64 + 2), .ref o, .ref o], M)) rfl ?_
                refine ml_call (a := [.ref o, .int (u64 + 2)]) (rest := [.ref o]) rfl (okc_t rfl rfl rfl hS.1.1 hY0 (by decide)) rfl rfl (ti_u1 hS.1.1 hY0 hY1 (by omega)) (fun v66 M67 h68 => ?_)
                obtain ⟨⟨u69, rfl⟩, h68⟩ := h68
                rw [h68]
                show ml _ _ _ (311, [(0, .ref o)], [.int u69, .ref o], M) _
                refine ml_st (S' := (312, [(0, .ref o)], [.int (u69.toInt8.toInt32), .ref o], M)) rfl rfl rfl ?_
                refine tp_put rfl hS.1 hY0 (by decide) rfl (⟨_, rfl⟩) rfl rfl (fun M70 hS71 f72 => ?_)
                have hS73 := hS.put hS71 f72 rfl
                show ml _ _ _ (315, [(0, .ref o)], [], M70) _
                refine ml_blk 3 (S' := (318, [(0, .ref o)], [.ref o, .ref o, .ref o], M70)) rfl ?_
                refine tg_int rfl hS73.1.1 hY0 (by decide) rfl (fun u74 g75 => ?_)
                show ml _ _ _ (321, [(0, .ref o)], [.int u74, .ref o, .ref o], M70) _
                refine ml_blk 2 (S' := (323, [(0, .ref o)], [.int (u74 + 1), .ref o, .ref o], M70)) rfl ?_
                refine ml_call (a := [.ref o, .int (u74 + 1)]) (rest := [.ref o]) rfl (okc_t rfl rfl rfl hS73.1.1 hY0 (by decide)) rfl rfl (ti_u1 hS73.1.1 hY0 hY1 (by omega)) (fun v76 M77 h78 => ?_)
                obtain ⟨⟨u79, rfl⟩, h78⟩ := h78
                rw [h78]
                show ml _ _ _ (326, [(0, .ref o)], [.int u79, .ref o], M70) _
                refine ml_call (a := [.ref o, .int u79]) (rest := []) rfl (okc_t rfl rfl rfl hS73.1.1 hY0 (by decide)) rfl rfl (ti_isLocalTaken hS73.1.1 hY0 hY1 (by omega)) (fun v80 M81 h82 => ?_)
                obtain ⟨⟨u83, rfl, z84⟩, h82⟩ := h82
                have hS85 := hS73.tr h82
                show ml _ _ _ (329, [(0, .ref o)], [.int u83], M81) _
                exact ml_ret rfl (r_z (z84)) (⟨⟨_, rfl, z84⟩, hS85⟩)
              · show ml _ _ _ (330, [(0, .ref o)], [], M) _
                refine ml_blk 3 (S' := (333, [(0, .ref o)], [.ref o, .ref o, .ref o], M)) rfl ?_
                refine tg_int rfl hS.1.1 hY0 (by decide) rfl (fun u86 g87 => ?_)
                show ml _ _ _ (336, [(0, .ref o)], [.int u86, .ref o, .ref o], M) _
                refine ml_blk 2 (S' := (338, [(0, .ref o)], [.int (u86 + 1), .ref o, .ref o], M)) rfl ?_
                refine ml_call (a := [.ref o, .int (u86 + 1)]) (rest := [.ref o]) rfl (okc_t rfl rfl rfl hS.1.1 hY0 (by decide)) rfl rfl (ti_s4 hS.1.1 hY0 hY1 (by omega)) (fun v88 M89 h90 => ?_)
                obtain ⟨⟨u91, rfl⟩, h90⟩ := h90
                rw [h90]
                show ml _ _ _ (341, [(0, .ref o)], [.int u91, .ref o], M) _
                refine ml_st (S' := (344, [(0, .ref o)], [.int 167, .int u91, .ref o], M)) rfl rfl rfl ?_
                refine ml_call (a := [.ref o, .int u91, .int 167]) (rest := []) rfl (okc_t rfl rfl rfl hS.1.1 hY0 (by decide)) rfl rfl (ti_isJumpTaken hS.1.1 hY0 hY1 (by omega)) (fun v92 M93 h94 => ?_)
                obtain ⟨⟨u95, rfl, z96⟩, h94⟩ := h94
                have hS97 := hS.tr h94
                show ml _ _ _ (347, [(0, .ref o)], [.int u95], M93) _
                exact ml_ret rfl (r_z (z96)) (⟨⟨_, rfl, z96⟩, hS97⟩)
              · show ml _ _ _ (348, [(0, .ref o)], [], M) _
                refine ml_blk 3 (S' := (351, [(0, .ref o)], [.ref o, .ref o, .ref o], M)) rfl ?_
                refine tg_int rfl hS.1.1 hY0 (by decide) rfl (fun u98 g99 => ?_)
                show ml _ _ _ (354, [(0, .ref o)], [.int u98, .ref o, .ref o], M) _
                refine ml_blk 2 (S' := (356, [(0, .ref o)], [.int (u98 + 1), .ref o, .ref o], M)) rfl ?_
                refine ml_call (a := [.ref o, .int (u98 + 1)]) (rest := [.ref o]) rfl (okc_t rfl rfl rfl hS.1.1 hY0 (by decide)) rfl rfl (ti_s4 hS.1.1 hY0 hY1 (by omega)) (fun v100 M101 h102 => ?_)
                obtain ⟨⟨u103, rfl⟩, h102⟩ := h102
                rw [h102]
                show ml _ _ _ (359, [(0, .ref o)], [.int u103, .ref o], M) _
                refine ml_st (S' := (362, [(0, .ref o)], [.int 168, .int u103, .ref o], M)) rfl rfl rfl ?_
                refine ml_call (a := [.ref o, .int u103, .int 168]) (rest := []) rfl (okc_t rfl rfl rfl hS.1.1 hY0 (by decide)) rfl rfl (ti_isJumpTaken hS.1.1 hY0 hY1 (by omega)) (fun v104 M105 h106 => ?_)
                obtain ⟨⟨u107, rfl, z108⟩, h106⟩ := h106
                have hS109 := hS.tr h106
                show ml _ _ _ (365, [(0, .ref o)], [.int u107], M105) _
                exact ml_ret rfl (r_z (z108)) (⟨⟨_, rfl, z108⟩, hS109⟩)
              · show ml _ _ _ (366, [(0, .ref o)], [], M) _
                refine ml_st (S' := (367, [(0, .ref o)], [.ref o], M)) rfl rfl rfl ?_
                refine ml_call (a := [.ref o]) (rest := []) rfl (okc_t rfl rfl rfl hS.1.1 hY0 (by decide)) rfl rfl (ti_isIndexTaken hS.1.1 hY0 hY1 (by omega)) (fun v110 M111 h112 => ?_)
                obtain ⟨⟨u113, rfl, z114⟩, h112⟩ := h112
                have hS115 := hS.tr h112
                show ml _ _ _ (370, [(0, .ref o)], [.int u113], M111) _
                exact ml_ret rfl (r_z (z114)) (⟨⟨_, rfl, z114⟩, hS115⟩)
            · have c_126 : ¬ (¬ u1 = 199) := of_decide_eq_false c_126
              refine ml_blk 3 (S' := (132, [(0, .ref o)], [.ref o, .ref o, .ref o], M)) rfl ?_
              refine tg_int rfl hS.1.1 hY0 (by decide) rfl (fun u116 g117 => ?_)
              show ml _ _ _ (135, [(0, .ref o)], [.int u116, .ref o, .ref o], M) _
              refine ml_blk 2 (S' := (137, [(0, .ref o)], [.int (u116 + 1), .ref o, .ref o], M)) rfl ?_
              refine ml_call (a := [.ref o, .int (u116 + 1)]) (rest := [.ref o]) rfl (okc_t rfl rfl rfl hS.1.1 hY0 (by decide)) rfl rfl (ti_u2 hS.1.1 hY0 hY1 (by omega)) (fun v118 M119 h120 => ?_)
              obtain ⟨⟨u121, rfl⟩, h120⟩ := h120
              rw [h120]
              show ml _ _ _ (140, [(0, .ref o)], [.int u121, .ref o], M) _
              refine ml_blk 2 (S' := (142, [(0, .ref o)], [.ref o, .int (u121.toInt16.toInt32), .ref o], M)) rfl ?_
              refine ml_get (S' := (145, [(0, .ref o)], [.int u1, .int (u121.toInt16.toInt32), .ref o], M)) rfl g2 rfl ?_
              refine ml_call (a := [.ref o, .int (u121.toInt16.toInt32), .int u1]) (rest := []) rfl (okc_t rfl rfl rfl hS.1.1 hY0 (by decide)) rfl rfl (ti_isJumpTaken hS.1.1 hY0 hY1 (by omega)) (fun v122 M123 h124 => ?_)
              obtain ⟨⟨u125, rfl, z126⟩, h124⟩ := h124
              have hS127 := hS.tr h124
              show ml _ _ _ (148, [(0, .ref o)], [.int u125], M123) _
              exact ml_ret rfl (r_z (z126)) (⟨⟨_, rfl, z126⟩, hS127⟩)
        refine ml_if2 (S1 := (109, [(0, .ref o)], [], M)) (S2 := (99, [(0, .ref o)], [], M)) rfl rfl rfl (fun c_96 => ?_) (fun c_96 => ?_)
        · have c_96 : u1 < 153 := of_decide_eq_true c_96
          exact J_109 
        · have c_96 : ¬ (u1 < 153) := of_decide_eq_false c_96
          refine ml_st (S' := (100, [(0, .ref o)], [.ref o], M)) rfl rfl rfl ?_
          refine ml_get (S' := (103, [(0, .ref o)], [.int u1], M)) rfl g2 rfl ?_
          refine ml_st (S' := (106, [(0, .ref o)], [.int 168, .int u1], M)) rfl rfl rfl ?_
          refine ml_if2 (S1 := (129, [(0, .ref o)], [], M)) (S2 := (109, [(0, .ref o)], [], M)) rfl rfl rfl (fun c_106 => ?_) (fun c_106 => ?_)
          · have c_106 : u1 ≤ 168 := of_decide_eq_true c_106
            refine ml_blk 3 (S' := (132, [(0, .ref o)], [.ref o, .ref o, .ref o], M)) rfl ?_
            refine tg_int rfl hS.1.1 hY0 (by decide) rfl (fun u128 g129 => ?_)
            show ml _ _ _ (135, [(0, .ref o)], [.int u128, .ref o, .ref o], M) _
            refine ml_blk 2 (S' := (137, [(0, .ref o)], [.int (u128 + 1), .ref o, .ref o], M)) rfl ?_
            refine ml_call (a := [.ref o, .int (u128 + 1)]) (rest := [.ref o]) rfl (okc_t rfl rfl rfl hS.1.1 hY0 (by decide)) rfl rfl (ti_u2 hS.1.1 hY0 hY1 (by omega)) (fun v130 M131 h132 => ?_)
            obtain ⟨⟨u133, rfl⟩, h132⟩ := h132
            rw [h132]
            show ml _ _ _ (140, [(0, .ref o)], [.int u133, .ref o], M) _
            refine ml_blk 2 (S' := (142, [(0, .ref o)], [.ref o, .int (u133.toInt16.toInt32), .ref o], M)) rfl ?_
            refine ml_get (S' := (145, [(0, .ref o)], [.int u1, .int (u133.toInt16.toInt32), .ref o], M)) rfl g2 rfl ?_
            refine ml_call (a := [.ref o, .int (u133.toInt16.toInt32), .int u1]) (rest := []) rfl (okc_t rfl rfl rfl hS.1.1 hY0 (by decide)) rfl rfl (ti_isJumpTaken hS.1.1 hY0 hY1 (by omega)) (fun v134 M135 h136 => ?_)
            obtain ⟨⟨u137, rfl, z138⟩, h136⟩ := h136
            have hS139 := hS.tr h136
            show ml _ _ _ (148, [(0, .ref o)], [.int u137], M135) _
            exact ml_ret rfl (r_z (z138)) (⟨⟨_, rfl, z138⟩, hS139⟩)
          · have c_106 : ¬ (u1 ≤ 168) := of_decide_eq_false c_106
            exact J_109 
      · have c_71 : ¬ (u6 = 0) := of_decide_eq_false c_71
        refine ml_blk 3 (S' := (77, [(0, .ref o)], [.ref o, .ref o, .ref o], M)) rfl ?_
        refine tg_int rfl hS.1.1 hY0 (by decide) rfl (fun u140 g141 => ?_)
        show ml _ _ _ (80, [(0, .ref o)], [.int u140, .ref o, .ref o], M) _
        refine ml_blk 2 (S' := (82, [(0, .ref o)], [.int (u140 + 1), .ref o, .ref o], M)) rfl ?_
        refine ml_call (a := [.ref o, .int (u140 + 1)]) (rest := [.ref o]) rfl (okc_t rfl rfl rfl hS.1.1 hY0 (by decide)) rfl rfl (ti_u1 hS.1.1 hY0 hY1 (by omega)) (fun v142 M143 h144 => ?_)
        obtain ⟨⟨u145, rfl⟩, h144⟩ := h144
        rw [h144]
        show ml _ _ _ (85, [(0, .ref o)], [.int u145, .ref o], M) _
        refine ml_call (a := [.ref o, .int u145]) (rest := []) rfl (okc_t rfl rfl rfl hS.1.1 hY0 (by decide)) rfl rfl (ti_isLocalTaken hS.1.1 hY0 hY1 (by omega)) (fun v146 M147 h148 => ?_)
        obtain ⟨⟨u149, rfl, z150⟩, h148⟩ := h148
        have hS151 := hS.tr h148
        show ml _ _ _ (88, [(0, .ref o)], [.int u149], M147) _
        exact ml_ret rfl (r_z (z150)) (⟨⟨_, rfl, z150⟩, hS151⟩)
    refine ml_if2 (S1 := (64, [(0, .ref o)], [], M)) (S2 := (41, [(0, .ref o)], [], M)) rfl rfl rfl (fun c_38 => ?_) (fun c_38 => ?_)
    · have c_38 : u1 < 59 := of_decide_eq_true c_38
      exact J_64 
    · have c_38 : ¬ (u1 < 59) := of_decide_eq_false c_38
      refine ml_st (S' := (42, [(0, .ref o)], [.ref o], M)) rfl rfl rfl ?_
      refine ml_get (S' := (45, [(0, .ref o)], [.int u1], M)) rfl g2 rfl ?_
      refine ml_st (S' := (47, [(0, .ref o)], [.int 78, .int u1], M)) rfl rfl rfl ?_
      refine ml_if2 (S1 := (64, [(0, .ref o)], [], M)) (S2 := (50, [(0, .ref o)], [], M)) rfl rfl rfl (fun c_47 => ?_) (fun c_47 => ?_)
      · have c_47 : 78 < u1 := of_decide_eq_true c_47
        exact J_64 
      · have c_47 : ¬ (78 < u1) := of_decide_eq_false c_47
        refine ml_blk 2 (S' := (52, [(0, .ref o)], [.ref o, .ref o], M)) rfl ?_
        refine ml_get (S' := (55, [(0, .ref o)], [.int u1, .ref o], M)) rfl g2 rfl ?_
        refine ml_blk 3 (S' := (60, [(0, .ref o)], [.int 54, .int (u1 - 59), .ref o], M)) rfl ?_
        refine ml_call (a := [.ref o, .int (u1 - 59), .int 54]) (rest := []) rfl (okc_t rfl rfl rfl hS.1.1 hY0 (by decide)) rfl rfl (ti_isShortLocalTaken hS.1.1 hY0 hY1 (by omega)) (fun v152 M153 h154 => ?_)
        obtain ⟨⟨u155, rfl, z156⟩, h154⟩ := h154
        have hS157 := hS.tr h154
        show ml _ _ _ (63, [(0, .ref o)], [.int u155], M153) _
        exact ml_ret rfl (r_z (z156)) (⟨⟨_, rfl, z156⟩, hS157⟩)
  refine ml_if2 (S1 := (32, [(0, .ref o)], [], M)) (S2 := (9, [(0, .ref o)], [], M)) rfl rfl rfl (fun c_6 => ?_) (fun c_6 => ?_)
  · have c_6 : u1 < 26 := of_decide_eq_true c_6
    exact J_32 
  · have c_6 : ¬ (u1 < 26) := of_decide_eq_false c_6
    refine ml_st (S' := (10, [(0, .ref o)], [.ref o], M)) rfl rfl rfl ?_
    refine ml_get (S' := (13, [(0, .ref o)], [.int u1], M)) rfl g2 rfl ?_
    refine ml_st (S' := (15, [(0, .ref o)], [.int 45, .int u1], M)) rfl rfl rfl ?_
    refine ml_if2 (S1 := (32, [(0, .ref o)], [], M)) (S2 := (18, [(0, .ref o)], [], M)) rfl rfl rfl (fun c_15 => ?_) (fun c_15 => ?_)
    · have c_15 : 45 < u1 := of_decide_eq_true c_15
      exact J_32 
    · have c_15 : ¬ (45 < u1) := of_decide_eq_false c_15
      refine ml_blk 2 (S' := (20, [(0, .ref o)], [.ref o, .ref o], M)) rfl ?_
      refine ml_get (S' := (23, [(0, .ref o)], [.int u1, .ref o], M)) rfl g2 rfl ?_
      refine ml_blk 3 (S' := (28, [(0, .ref o)], [.int 21, .int (u1 - 26), .ref o], M)) rfl ?_
      refine ml_call (a := [.ref o, .int (u1 - 26), .int 21]) (rest := []) rfl (okc_t rfl rfl rfl hS.1.1 hY0 (by decide)) rfl rfl (ti_isShortLocalTaken hS.1.1 hY0 hY1 (by omega)) (fun v158 M159 h160 => ?_)
      obtain ⟨⟨u161, rfl, z162⟩, h160⟩ := h160
      have hS163 := hS.tr h160
      show ml _ _ _ (31, [(0, .ref o)], [.int u161], M159) _
      exact ml_ret rfl (r_z (z162)) (⟨⟨_, rfl, z162⟩, hS163⟩)
set_option maxHeartbeats 2000000 in
theorem ti_isWideTaken {g : xe_G} {M : mi_H} {Y : yT} {o b k da n : Nat} {cl y9 : Int32} (hW : WF g Y M) (hY0 : Y.1 o = some (5, [b, k])) (hY1 : Y.1 b = some (1, [da, n])) (hc2 : mi_gf M o 5 2 = some (.int cl)) (hc9 : mi_gf M o 5 9 = some (.int y9)) (hk : k < 1073741824) (hcl : cl.toInt ≤ k) (h0 : 0 ≤ y9.toInt) (hp : y9.toInt < cl.toInt) {d : Nat} (hd : 3 ≤ d) : mt (mT g) d 99 [.ref o] M (qS g Y o k y9 M) := by
  obtain ⟨d, rfl⟩ : ∃ e, d = e + 1 := ⟨d - 1, by omega⟩
  have hS : st g Y M M := st.rf hW
  refine mt_in (b := mb_99 g) rfl rfl ?_
  show ml (mT g) d (mb_99 g).2 (0, [(0, .ref o)], [], M) _
  refine ml_st (S' := (1, [(0, .ref o)], [.ref o], M)) rfl rfl rfl ?_
  refine ml_get (S' := (4, [(0, .ref o)], [.int cl], M)) rfl hc2 rfl ?_
  refine ml_st (S' := (5, [(0, .ref o)], [.ref o, .int cl], M)) rfl rfl rfl ?_
  refine ml_get (S' := (8, [(0, .ref o)], [.int y9, .int cl], M)) rfl hc9 rfl ?_
  refine ml_blk 2 (S' := (10, [(0, .ref o)], [.int 4, .int (cl - y9)], M)) rfl ?_
  refine ml_if2 (S1 := (15, [(0, .ref o)], [], M)) (S2 := (13, [(0, .ref o)], [], M)) rfl rfl rfl (fun c_10 => ?_) (fun c_10 => ?_)
  · have c_10 : 4 ≤ (cl - y9) := of_decide_eq_true c_10
    refine ml_blk 3 (S' := (18, [(0, .ref o)], [.ref o, .ref o, .ref o], M)) rfl ?_
    refine ml_get (S' := (21, [(0, .ref o)], [.int y9, .ref o, .ref o], M)) rfl hc9 rfl ?_
    refine ml_blk 2 (S' := (23, [(0, .ref o)], [.int (y9 + 1), .ref o, .ref o], M)) rfl ?_
    refine ml_call (a := [.ref o, .int (y9 + 1)]) (rest := [.ref o]) rfl (okc_t rfl rfl rfl hS.1 hY0 (by decide)) rfl rfl (ti_u1 hS.1 hY0 hY1 (by omega)) (fun v1 M2 h3 => ?_)
    obtain ⟨⟨u4, rfl⟩, h3⟩ := h3
    rw [h3]
    show ml _ _ _ (26, [(0, .ref o)], [.int u4, .ref o], M) _
    refine tp_put rfl hS hY0 (by decide) rfl (⟨_, rfl⟩) rfl rfl (fun M5 hS6 f7 => ?_)
    have g8 := f7.2.1 2 _ (by decide) hc2
    have g9 := f7.2.1 9 _ (by decide) hc9
    show ml _ _ _ (29, [(0, .ref o)], [], M5) _
    refine ml_st (S' := (30, [(0, .ref o)], [.ref o], M5)) rfl rfl rfl ?_
    refine ml_get (S' := (33, [(0, .ref o)], [.int u4], M5)) rfl f7.2.2.1 rfl ?_
    refine ml_st (S' := (36, [(0, .ref o)], [.int 132, .int u4], M5)) rfl rfl rfl ?_
    refine ml_if2 (S1 := (63, [(0, .ref o)], [], M5)) (S2 := (39, [(0, .ref o)], [], M5)) rfl rfl rfl (fun c_36 => ?_) (fun c_36 => ?_)
    · have c_36 : ¬ u4 = 132 := of_decide_eq_true c_36
      refine ml_blk 2 (S' := (65, [(0, .ref o)], [.int 4, .ref o], M5)) rfl ?_
      refine tp_put rfl hS6 hY0 (by decide) rfl (⟨_, rfl⟩) rfl rfl (fun M10 hS11 f12 => ?_)
      have g13 := f12.2.1 2 _ (by decide) g8
      have g14 := f12.2.1 9 _ (by decide) g9
      show ml _ _ _ (68, [(0, .ref o)], [], M10) _
      refine ml_st (S' := (69, [(0, .ref o)], [.ref o], M10)) rfl rfl rfl ?_
      refine ml_get (S' := (72, [(0, .ref o)], [.int 4], M10)) rfl f12.2.2.1 rfl ?_
      refine ml_st (S' := (73, [(0, .ref o)], [.ref o, .int 4], M10)) rfl rfl rfl ?_
      refine ml_get (S' := (76, [(0, .ref o)], [.int cl, .int 4], M10)) rfl g13 rfl ?_
      refine ml_st (S' := (77, [(0, .ref o)], [.ref o, .int cl, .int 4], M10)) rfl rfl rfl ?_
      refine ml_get (S' := (80, [(0, .ref o)], [.int y9, .int cl, .int 4], M10)) rfl g14 rfl ?_
      refine ml_st (S' := (81, [(0, .ref o)], [.int (cl - y9), .int 4], M10)) rfl rfl rfl ?_
      refine ml_if2 (S1 := (104, [], [], M10)) (S2 := (84, [(0, .ref o)], [], M10)) rfl rfl rfl (fun c_81 => ?_) (fun c_81 => ?_)
      · have c_81 : (cl - y9) < 4 := of_decide_eq_true c_81
        refine ml_st (S' := (105, [], [.int 0], M10)) rfl rfl rfl ?_
        exact ml_ret rfl (r_z (Or.inl rfl)) (⟨⟨_, rfl, Or.inl rfl⟩, hS11⟩)
      · have c_81 : ¬ ((cl - y9) < 4) := of_decide_eq_false c_81
        refine ml_st (S' := (85, [(0, .ref o)], [.ref o], M10)) rfl rfl rfl ?_
        refine tg_int rfl hS11.1 hY0 (by decide) rfl (fun u15 g16 => ?_)
        show ml _ _ _ (88, [(0, .ref o)], [.int u15], M10) _
        refine ml_st (S' := (91, [(0, .ref o)], [.int 132, .int u15], M10)) rfl rfl rfl ?_
        refine ml_if2 (S1 := (106, [(0, .ref o)], [], M10)) (S2 := (94, [(0, .ref o)], [], M10)) rfl rfl rfl (fun c_91 => ?_) (fun c_91 => ?_)
        · have c_91 : u15 = 132 := of_decide_eq_true c_91
          refine ml_blk 3 (S' := (109, [(0, .ref o)], [.ref o, .ref o, .ref o], M10)) rfl ?_
          refine ml_get (S' := (112, [(0, .ref o)], [.int y9, .ref o, .ref o], M10)) rfl g14 rfl ?_
          refine ml_blk 2 (S' := (114, [(0, .ref o)], [.int (y9 + 2), .ref o, .ref o], M10)) rfl ?_
          refine ml_call (a := [.ref o, .int (y9 + 2)]) (rest := [.ref o]) rfl (okc_t rfl rfl rfl hS11.1 hY0 (by decide)) rfl rfl (ti_u2 hS11.1 hY0 hY1 (by omega)) (fun v17 M18 h19 => ?_)
          obtain ⟨⟨u20, rfl⟩, h19⟩ := h19
          rw [h19]
          show ml _ _ _ (117, [(0, .ref o)], [.int u20, .ref o], M10) _
          refine ml_call (a := [.ref o, .int u20]) (rest := []) rfl (okc_t rfl rfl rfl hS11.1 hY0 (by decide)) rfl rfl (ti_isLocalTaken hS11.1 hY0 hY1 (by omega)) (fun v21 M22 h23 => ?_)
          obtain ⟨⟨u24, rfl, z25⟩, h23⟩ := h23
          have g26 := h23.2 2 _ rfl g13
          have g27 := h23.2 9 _ rfl g14
          have g28 := h23.2 4 _ rfl f12.2.2.1
          have hS29 := hS11.tr h23.1
          show ml _ _ _ (120, [(0, .ref o)], [.int u24], M22) _
          exact ml_ret rfl (r_z (z25)) (⟨⟨_, rfl, (z25).imp id (fun h => ⟨h, _, g28, by decide, sz_in hk hcl h0 hp (Int32.not_lt.mp c_81)⟩)⟩, hS29⟩)
        · have c_91 : ¬ (u15 = 132) := of_decide_eq_false c_91
          refine ml_st (S' := (95, [(0, .ref o)], [.ref o], M10)) rfl rfl rfl ?_
          refine ml_get (S' := (98, [(0, .ref o)], [.int u15], M10)) rfl g16 rfl ?_
          refine ml_call (a := [.int u15]) (rest := []) rfl (rfl) rfl rfl (ti_isLocalOpcode hS11.1  (by omega)) (fun v30 M31 h32 => ?_)
          obtain ⟨⟨u33, rfl, z34⟩, h32⟩ := h32
          rw [h32]
          show ml _ _ _ (101, [(0, .ref o)], [.int u33], M10) _
          refine ml_if (S1 := (106, [(0, .ref o)], [], M10)) (S2 := (104, [], [], M10)) rfl rfl rfl (fun c_101 => ?_) (fun c_101 => ?_)
          · have c_101 : ¬ u33 = 0 := of_decide_eq_true c_101
            refine ml_blk 3 (S' := (109, [(0, .ref o)], [.ref o, .ref o, .ref o], M10)) rfl ?_
            refine ml_get (S' := (112, [(0, .ref o)], [.int y9, .ref o, .ref o], M10)) rfl g14 rfl ?_
            refine ml_blk 2 (S' := (114, [(0, .ref o)], [.int (y9 + 2), .ref o, .ref o], M10)) rfl ?_
            refine ml_call (a := [.ref o, .int (y9 + 2)]) (rest := [.ref o]) rfl (okc_t rfl rfl rfl hS11.1 hY0 (by decide)) rfl rfl (ti_u2 hS11.1 hY0 hY1 (by omega)) (fun v35 M36 h37 => ?_)
            obtain ⟨⟨u38, rfl⟩, h37⟩ := h37
            rw [h37]
            show ml _ _ _ (117, [(0, .ref o)], [.int u38, .ref o], M10) _
            refine ml_call (a := [.ref o, .int u38]) (rest := []) rfl (okc_t rfl rfl rfl hS11.1 hY0 (by decide)) rfl rfl (ti_isLocalTaken hS11.1 hY0 hY1 (by omega)) (fun v39 M40 h41 => ?_)
            obtain ⟨⟨u42, rfl, z43⟩, h41⟩ := h41
            have g44 := h41.2 2 _ rfl g13
            have g45 := h41.2 9 _ rfl g14
            have g46 := h41.2 4 _ rfl f12.2.2.1
            have hS47 := hS11.tr h41.1
            show ml _ _ _ (120, [(0, .ref o)], [.int u42], M40) _
            exact ml_ret rfl (r_z (z43)) (⟨⟨_, rfl, (z43).imp id (fun h => ⟨h, _, g46, by decide, sz_in hk hcl h0 hp (Int32.not_lt.mp c_81)⟩)⟩, hS47⟩)
          · have c_101 : ¬ (¬ u33 = 0) := of_decide_eq_false c_101
            refine ml_st (S' := (105, [], [.int 0], M10)) rfl rfl rfl ?_
            exact ml_ret rfl (r_z (Or.inl rfl)) (⟨⟨_, rfl, Or.inl rfl⟩, hS11⟩)
    · have c_36 : ¬ (¬ u4 = 132) := of_decide_eq_false c_36
      refine ml_blk 2 (S' := (42, [(0, .ref o)], [.int 6, .ref o], M5)) rfl ?_
      refine tp_put rfl hS6 hY0 (by decide) rfl (⟨_, rfl⟩) rfl rfl (fun M48 hS49 f50 => ?_)
      have g51 := f50.2.1 2 _ (by decide) g8
      have g52 := f50.2.1 9 _ (by decide) g9
      show ml _ _ _ (45, [(0, .ref o)], [], M48) _
      refine ml_blk 3 (S' := (48, [(0, .ref o)], [.ref o, .ref o, .ref o], M48)) rfl ?_
      refine ml_get (S' := (51, [(0, .ref o)], [.int y9, .ref o, .ref o], M48)) rfl g52 rfl ?_
      refine ml_blk 2 (S' := (53, [(0, .ref o)], [.int (y9 + 4), .ref o, .ref o], M48)) rfl ?_
      refine ml_call (a := [.ref o, .int (y9 + 4)]) (rest := [.ref o]) rfl (okc_t rfl rfl rfl hS49.1 hY0 (by decide)) rfl rfl (ti_u2 hS49.1 hY0 hY1 (by omega)) (fun v53 M54 h55 => ?_)
      obtain ⟨⟨u56, rfl⟩, h55⟩ := h55
      rw [h55]
      show ml _ _ _ (56, [(0, .ref o)], [.int u56, .ref o], M48) _
      refine ml_st (S' := (57, [(0, .ref o)], [.int (u56.toInt16.toInt32), .ref o], M48)) rfl rfl rfl ?_
      refine tp_put rfl hS49 hY0 (by decide) rfl (⟨_, rfl⟩) rfl rfl (fun M57 hS58 f59 => ?_)
      have g60 := f59.2.1 2 _ (by decide) g51
      have g61 := f59.2.1 9 _ (by decide) g52
      have g62 := f59.2.1 4 _ (by decide) f50.2.2.1
      show ml _ _ _ (60, [(0, .ref o)], [], M57) _
      refine ml_st (S' := (68, [(0, .ref o)], [], M57)) rfl rfl rfl ?_
      refine ml_st (S' := (69, [(0, .ref o)], [.ref o], M57)) rfl rfl rfl ?_
      refine ml_get (S' := (72, [(0, .ref o)], [.int 6], M57)) rfl g62 rfl ?_
      refine ml_st (S' := (73, [(0, .ref o)], [.ref o, .int 6], M57)) rfl rfl rfl ?_
      refine ml_get (S' := (76, [(0, .ref o)], [.int cl, .int 6], M57)) rfl g60 rfl ?_
      refine ml_st (S' := (77, [(0, .ref o)], [.ref o, .int cl, .int 6], M57)) rfl rfl rfl ?_
      refine ml_get (S' := (80, [(0, .ref o)], [.int y9, .int cl, .int 6], M57)) rfl g61 rfl ?_
      refine ml_st (S' := (81, [(0, .ref o)], [.int (cl - y9), .int 6], M57)) rfl rfl rfl ?_
      refine ml_if2 (S1 := (104, [], [], M57)) (S2 := (84, [(0, .ref o)], [], M57)) rfl rfl rfl (fun c_81 => ?_) (fun c_81 => ?_)
      · have c_81 : (cl - y9) < 6 := of_decide_eq_true c_81
        refine ml_st (S' := (105, [], [.int 0], M57)) rfl rfl rfl ?_
        exact ml_ret rfl (r_z (Or.inl rfl)) (⟨⟨_, rfl, Or.inl rfl⟩, hS58⟩)
      · have c_81 : ¬ ((cl - y9) < 6) := of_decide_eq_false c_81
        refine ml_st (S' := (85, [(0, .ref o)], [.ref o], M57)) rfl rfl rfl ?_
        refine tg_int rfl hS58.1 hY0 (by decide) rfl (fun u63 g64 => ?_)
        show ml _ _ _ (88, [(0, .ref o)], [.int u63], M57) _
        refine ml_st (S' := (91, [(0, .ref o)], [.int 132, .int u63], M57)) rfl rfl rfl ?_
        refine ml_if2 (S1 := (106, [(0, .ref o)], [], M57)) (S2 := (94, [(0, .ref o)], [], M57)) rfl rfl rfl (fun c_91 => ?_) (fun c_91 => ?_)
        · have c_91 : u63 = 132 := of_decide_eq_true c_91
          refine ml_blk 3 (S' := (109, [(0, .ref o)], [.ref o, .ref o, .ref o], M57)) rfl ?_
          refine ml_get (S' := (112, [(0, .ref o)], [.int y9, .ref o, .ref o], M57)) rfl g61 rfl ?_
          refine ml_blk 2 (S' := (114, [(0, .ref o)], [.int (y9 + 2), .ref o, .ref o], M57)) rfl ?_
          refine ml_call (a := [.ref o, .int (y9 + 2)]) (rest := [.ref o]) rfl (okc_t rfl rfl rfl hS58.1 hY0 (by decide)) rfl rfl (ti_u2 hS58.1 hY0 hY1 (by omega)) (fun v65 M66 h67 => ?_)
          obtain ⟨⟨u68, rfl⟩, h67⟩ := h67
          rw [h67]
          show ml _ _ _ (117, [(0, .ref o)], [.int u68, .ref o], M57) _
          refine ml_call (a := [.ref o, .int u68]) (rest := []) rfl (okc_t rfl rfl rfl hS58.1 hY0 (by decide)) rfl rfl (ti_isLocalTaken hS58.1 hY0 hY1 (by omega)) (fun v69 M70 h71 => ?_)
          obtain ⟨⟨u72, rfl, z73⟩, h71⟩ := h71
          have g74 := h71.2 2 _ rfl g60
          have g75 := h71.2 9 _ rfl g61
          have g76 := h71.2 4 _ rfl g62
          have hS77 := hS58.tr h71.1
          show ml _ _ _ (120, [(0, .ref o)], [.int u72], M70) _
          exact ml_ret rfl (r_z (z73)) (⟨⟨_, rfl, (z73).imp id (fun h => ⟨h, _, g76, by decide, sz_in hk hcl h0 hp (Int32.not_lt.mp c_81)⟩)⟩, hS77⟩)
        · have c_91 : ¬ (u63 = 132) := of_decide_eq_false c_91
          refine ml_st (S' := (95, [(0, .ref o)], [.ref o], M57)) rfl rfl rfl ?_
          refine ml_get (S' := (98, [(0, .ref o)], [.int u63], M57)) rfl g64 rfl ?_
          refine ml_call (a := [.int u63]) (rest := []) rfl (rfl) rfl rfl (ti_isLocalOpcode hS58.1  (by omega)) (fun v78 M79 h80 => ?_)
          obtain ⟨⟨u81, rfl, z82⟩, h80⟩ := h80
          rw [h80]
          show ml _ _ _ (101, [(0, .ref o)], [.int u81], M57) _
          refine ml_if (S1 := (106, [(0, .ref o)], [], M57)) (S2 := (104, [], [], M57)) rfl rfl rfl (fun c_101 => ?_) (fun c_101 => ?_)
          · have c_101 : ¬ u81 = 0 := of_decide_eq_true c_101
            refine ml_blk 3 (S' := (109, [(0, .ref o)], [.ref o, .ref o, .ref o], M57)) rfl ?_
            refine ml_get (S' := (112, [(0, .ref o)], [.int y9, .ref o, .ref o], M57)) rfl g61 rfl ?_
            refine ml_blk 2 (S' := (114, [(0, .ref o)], [.int (y9 + 2), .ref o, .ref o], M57)) rfl ?_
            refine ml_call (a := [.ref o, .int (y9 + 2)]) (rest := [.ref o]) rfl (okc_t rfl rfl rfl hS58.1 hY0 (by decide)) rfl rfl (ti_u2 hS58.1 hY0 hY1 (by omega)) (fun v83 M84 h85 => ?_)
            obtain ⟨⟨u86, rfl⟩, h85⟩ := h85
            rw [h85]
            show ml _ _ _ (117, [(0, .ref o)], [.int u86, .ref o], M57) _
            refine ml_call (a := [.ref o, .int u86]) (rest := []) rfl (okc_t rfl rfl rfl hS58.1 hY0 (by decide)) rfl rfl (ti_isLocalTaken hS58.1 hY0 hY1 (by omega)) (fun v87 M88 h89 => ?_)
            obtain ⟨⟨u90, rfl, z91⟩, h89⟩ := h89
            have g92 := h89.2 2 _ rfl g60
            have g93 := h89.2 9 _ rfl g61
            have g94 := h89.2 4 _ rfl g62
            have hS95 := hS58.tr h89.1
            show ml _ _ _ (120, [(0, .ref o)], [.int u90], M88) _
            exact ml_ret rfl (r_z (z91)) (⟨⟨_, rfl, (z91).imp id (fun h => ⟨h, _, g94, by decide, sz_in hk hcl h0 hp (Int32.not_lt.mp c_81)⟩)⟩, hS95⟩)
          · have c_101 : ¬ (¬ u81 = 0) := of_decide_eq_false c_101
            refine ml_st (S' := (105, [], [.int 0], M57)) rfl rfl rfl ?_
            exact ml_ret rfl (r_z (Or.inl rfl)) (⟨⟨_, rfl, Or.inl rfl⟩, hS58⟩)
  · have c_10 : ¬ (4 ≤ (cl - y9)) := of_decide_eq_false c_10
    refine ml_st (S' := (14, [(0, .ref o)], [.int 0], M)) rfl rfl rfl ?_
    exact ml_ret rfl (r_z (Or.inl rfl)) (⟨⟨_, rfl, Or.inl rfl⟩, hS⟩)
set_option maxHeartbeats 2000000 in
theorem ti_isTableTaken {g : xe_G} {M : mi_H} {Y : yT} {o b k da n : Nat} {cl y9 sa : Int32} (hW : WF g Y M) (hY0 : Y.1 o = some (5, [b, k])) (hY1 : Y.1 b = some (1, [da, n])) (hc2 : mi_gf M o 5 2 = some (.int cl)) (hc9 : mi_gf M o 5 9 = some (.int y9)) (hc11 : mi_gf M o 5 11 = some (.int sa)) (hk : k < 1073741824) (hcl : cl.toInt ≤ k) (h0 : 0 ≤ y9.toInt) (hp : y9.toInt < cl.toInt) (h1 : y9.toInt < sa.toInt) (h2 : sa.toInt ≤ y9.toInt + 4) {d : Nat} (hd : 3 ≤ d) : mt (mT g) d 97 [.ref o] M (qS g Y o k y9 M) := by
  obtain ⟨d, rfl⟩ : ∃ e, d = e + 1 := ⟨d - 1, by omega⟩
  have hS : st g Y M M := st.rf hW
  refine mt_in (b := mb_97 g) rfl rfl ?_
  show ml (mT g) d (mb_97 g).2 (0, [(0, .ref o)], [], M) _
  refine ml_st (S' := (1, [(0, .ref o)], [.ref o], M)) rfl rfl rfl ?_
  refine ml_get (S' := (4, [(0, .ref o)], [.int cl], M)) rfl hc2 rfl ?_
  refine ml_st (S' := (5, [(0, .ref o)], [.ref o, .int cl], M)) rfl rfl rfl ?_
  refine ml_get (S' := (8, [(0, .ref o)], [.int sa, .int cl], M)) rfl hc11 rfl ?_
  refine ml_blk 2 (S' := (11, [(0, .ref o)], [.int 12, .int (cl - sa)], M)) rfl ?_
  refine ml_if2 (S1 := (16, [(0, .ref o)], [], M)) (S2 := (14, [(0, .ref o)], [], M)) rfl rfl rfl (fun c_11 => ?_) (fun c_11 => ?_)
  · have c_11 : 12 ≤ (cl - sa) := of_decide_eq_true c_11
    refine ml_blk 3 (S' := (19, [(0, .ref o)], [.ref o, .ref o, .ref o], M)) rfl ?_
    refine ml_get (S' := (22, [(0, .ref o)], [.int sa, .ref o, .ref o], M)) rfl hc11 rfl ?_
    refine ml_blk 2 (S' := (24, [(0, .ref o)], [.int (sa + 4), .ref o, .ref o], M)) rfl ?_
    refine ml_call (a := [.ref o, .int (sa + 4)]) (rest := [.ref o]) rfl (okc_t rfl rfl rfl hS.1 hY0 (by decide)) rfl rfl (ti_s4 hS.1 hY0 hY1 (by omega)) (fun v1 M2 h3 => ?_)
    obtain ⟨⟨u4, rfl⟩, h3⟩ := h3
    rw [h3]
    show ml _ _ _ (27, [(0, .ref o)], [.int u4, .ref o], M) _
    refine tp_put rfl hS hY0 (by decide) rfl (⟨_, rfl⟩) rfl rfl (fun M5 hS6 f7 => ?_)
    have g8 := f7.2.1 2 _ (by decide) hc2
    have g9 := f7.2.1 9 _ (by decide) hc9
    have g10 := f7.2.1 11 _ (by decide) hc11
    show ml _ _ _ (30, [(0, .ref o)], [], M5) _
    refine ml_blk 3 (S' := (33, [(0, .ref o)], [.ref o, .ref o, .ref o], M5)) rfl ?_
    refine ml_get (S' := (36, [(0, .ref o)], [.int sa, .ref o, .ref o], M5)) rfl g10 rfl ?_
    refine ml_blk 2 (S' := (39, [(0, .ref o)], [.int (sa + 8), .ref o, .ref o], M5)) rfl ?_
    refine ml_call (a := [.ref o, .int (sa + 8)]) (rest := [.ref o]) rfl (okc_t rfl rfl rfl hS6.1 hY0 (by decide)) rfl rfl (ti_s4 hS6.1 hY0 hY1 (by omega)) (fun v11 M12 h13 => ?_)
    obtain ⟨⟨u14, rfl⟩, h13⟩ := h13
    rw [h13]
    show ml _ _ _ (42, [(0, .ref o)], [.int u14, .ref o], M5) _
    refine tp_put rfl hS6 hY0 (by decide) rfl (⟨_, rfl⟩) rfl rfl (fun M15 hS16 f17 => ?_)
    have g18 := f17.2.1 2 _ (by decide) g8
    have g19 := f17.2.1 9 _ (by decide) g9
    have g20 := f17.2.1 11 _ (by decide) g10
    show ml _ _ _ (45, [(0, .ref o)], [], M15) _
    refine ml_st (S' := (46, [(0, .ref o)], [.ref o], M15)) rfl rfl rfl ?_
    refine ml_get (S' := (49, [(0, .ref o)], [.int u14], M15)) rfl f17.2.2.1 rfl ?_
    refine ml_blk 2 (S' := (51, [(0, .ref o)], [.ref o, .long (Int32.toInt64 u14)], M15)) rfl ?_
    refine tg_int rfl hS16.1 hY0 (by decide) rfl (fun u21 g22 => ?_)
    show ml _ _ _ (54, [(0, .ref o)], [.int u21, .long (Int32.toInt64 u14)], M15) _
    refine ml_blk 3 (S' := (57, [(0, .ref o)], [.long 1, .long ((Int32.toInt64 u14) - (Int32.toInt64 u21))], M15)) rfl ?_
    refine ml_st (S' := (58, [(0, .ref o)], [.long (((Int32.toInt64 u14) - (Int32.toInt64 u21)) + 1)], M15)) rfl rfl rfl ?_
    refine ml_st (S' := (59, [(1, .long (((Int32.toInt64 u14) - (Int32.toInt64 u21)) + 1)), (0, .ref o)], [], M15)) rfl rfl rfl ?_
    refine ml_blk 3 (S' := (62, [(1, .long (((Int32.toInt64 u14) - (Int32.toInt64 u21)) + 1)), (0, .ref o)], [.int (lg_cmp (((Int32.toInt64 u14) - (Int32.toInt64 u21)) + 1) 1)], M15)) rfl ?_
    refine ml_if (S1 := (87, [], [], M15)) (S2 := (65, [(1, .long (((Int32.toInt64 u14) - (Int32.toInt64 u21)) + 1)), (0, .ref o)], [], M15)) rfl rfl rfl (fun c_62 => ?_) (fun c_62 => ?_)
    · have c_62 : (lg_cmp (((Int32.toInt64 u14) - (Int32.toInt64 u21)) + 1) 1) < 0 := of_decide_eq_true c_62
      refine ml_st (S' := (88, [], [.int 0], M15)) rfl rfl rfl ?_
      exact ml_ret rfl (r_z (Or.inl rfl)) (⟨⟨_, rfl, Or.inl rfl⟩, hS16⟩)
    · have c_62 : ¬ ((lg_cmp (((Int32.toInt64 u14) - (Int32.toInt64 u21)) + 1) 1) < 0) := of_decide_eq_false c_62
      refine ml_blk 3 (S' := (70, [(1, .long (((Int32.toInt64 u14) - (Int32.toInt64 u21)) + 1)), (0, .ref o)], [.long ((((Int32.toInt64 u14) - (Int32.toInt64 u21)) + 1) * 4)], M15)) rfl ?_
      refine ml_st (S' := (71, [(1, .long (((Int32.toInt64 u14) - (Int32.toInt64 u21)) + 1)), (0, .ref o)], [.ref o, .long ((((Int32.toInt64 u14) - (Int32.toInt64 u21)) + 1) * 4)], M15)) rfl rfl rfl ?_
      refine ml_get (S' := (74, [(1, .long (((Int32.toInt64 u14) - (Int32.toInt64 u21)) + 1)), (0, .ref o)], [.int cl, .long ((((Int32.toInt64 u14) - (Int32.toInt64 u21)) + 1) * 4)], M15)) rfl g18 rfl ?_
      refine ml_st (S' := (75, [(1, .long (((Int32.toInt64 u14) - (Int32.toInt64 u21)) + 1)), (0, .ref o)], [.ref o, .int cl, .long ((((Int32.toInt64 u14) - (Int32.toInt64 u21)) + 1) * 4)], M15)) rfl rfl rfl ?_
      refine ml_get (S' := (78, [(1, .long (((Int32.toInt64 u14) - (Int32.toInt64 u21)) + 1)), (0, .ref o)], [.int sa, .int cl, .long ((((Int32.toInt64 u14) - (Int32.toInt64 u21)) + 1) * 4)], M15)) rfl g20 rfl ?_
      refine ml_blk 3 (S' := (82, [(1, .long (((Int32.toInt64 u14) - (Int32.toInt64 u21)) + 1)), (0, .ref o)], [.int ((cl - sa) - 12), .long ((((Int32.toInt64 u14) - (Int32.toInt64 u21)) + 1) * 4)], M15)) rfl ?_
      refine ml_blk 2 (S' := (84, [(1, .long (((Int32.toInt64 u14) - (Int32.toInt64 u21)) + 1)), (0, .ref o)], [.int (lg_cmp ((((Int32.toInt64 u14) - (Int32.toInt64 u21)) + 1) * 4) (Int32.toInt64 ((cl - sa) - 12)))], M15)) rfl ?_
      refine ml_if (S1 := (89, [(1, .long (((Int32.toInt64 u14) - (Int32.toInt64 u21)) + 1)), (0, .ref o)], [], M15)) (S2 := (87, [], [], M15)) rfl rfl rfl (fun c_84 => ?_) (fun c_84 => ?_)
      · have c_84 : (lg_cmp ((((Int32.toInt64 u14) - (Int32.toInt64 u21)) + 1) * 4) (Int32.toInt64 ((cl - sa) - 12))) ≤ 0 := of_decide_eq_true c_84
        refine ml_blk 3 (S' := (92, [(1, .long (((Int32.toInt64 u14) - (Int32.toInt64 u21)) + 1)), (0, .ref o)], [.int (Int64.toInt32 (((Int32.toInt64 u14) - (Int32.toInt64 u21)) + 1)), .ref o], M15)) rfl ?_
        refine ml_blk 2 (S' := (94, [(1, .long (((Int32.toInt64 u14) - (Int32.toInt64 u21)) + 1)), (0, .ref o)], [.int ((Int64.toInt32 (((Int32.toInt64 u14) - (Int32.toInt64 u21)) + 1)) + 1), .ref o], M15)) rfl ?_
        refine tp_put rfl hS16 hY0 (by decide) rfl (⟨_, rfl⟩) rfl rfl (fun M23 hS24 f25 => ?_)
        have g26 := f25.2.1 2 _ (by decide) g18
        have g27 := f25.2.1 9 _ (by decide) g19
        have g28 := f25.2.1 11 _ (by decide) g20
        show ml _ _ _ (97, [(1, .long (((Int32.toInt64 u14) - (Int32.toInt64 u21)) + 1)), (0, .ref o)], [], M23) _
        refine ml_blk 2 (S' := (99, [(1, .long (((Int32.toInt64 u14) - (Int32.toInt64 u21)) + 1)), (0, .ref o)], [.ref o, .ref o], M23)) rfl ?_
        refine ml_get (S' := (102, [(1, .long (((Int32.toInt64 u14) - (Int32.toInt64 u21)) + 1)), (0, .ref o)], [.int sa, .ref o], M23)) rfl g28 rfl ?_
        refine ml_blk 3 (S' := (106, [(1, .long (((Int32.toInt64 u14) - (Int32.toInt64 u21)) + 1)), (0, .ref o)], [.int 4, .int (sa + 12), .ref o], M23)) rfl ?_
        refine ml_blk 3 (S' := (109, [(1, .long (((Int32.toInt64 u14) - (Int32.toInt64 u21)) + 1)), (0, .ref o)], [.int (4 * (Int64.toInt32 (((Int32.toInt64 u14) - (Int32.toInt64 u21)) + 1))), .int (sa + 12), .ref o], M23)) rfl ?_
        refine ml_blk 2 (S' := (111, [(1, .long (((Int32.toInt64 u14) - (Int32.toInt64 u21)) + 1)), (0, .ref o)], [.ref o, .int ((sa + 12) + (4 * (Int64.toInt32 (((Int32.toInt64 u14) - (Int32.toInt64 u21)) + 1)))), .ref o], M23)) rfl ?_
        refine ml_get (S' := (114, [(1, .long (((Int32.toInt64 u14) - (Int32.toInt64 u21)) + 1)), (0, .ref o)], [.int y9, .int ((sa + 12) + (4 * (Int64.toInt32 (((Int32.toInt64 u14) - (Int32.toInt64 u21)) + 1)))), .ref o], M23)) rfl g27 rfl ?_
        refine ml_st (S' := (115, [(1, .long (((Int32.toInt64 u14) - (Int32.toInt64 u21)) + 1)), (0, .ref o)], [.int (((sa + 12) + (4 * (Int64.toInt32 (((Int32.toInt64 u14) - (Int32.toInt64 u21)) + 1)))) - y9), .ref o], M23)) rfl rfl rfl ?_
        refine tp_put rfl hS24 hY0 (by decide) rfl (⟨_, rfl⟩) rfl rfl (fun M29 hS30 f31 => ?_)
        have g32 := f31.2.1 2 _ (by decide) g26
        have g33 := f31.2.1 9 _ (by decide) g27
        have g34 := f31.2.1 11 _ (by decide) g28
        show ml _ _ _ (118, [(1, .long (((Int32.toInt64 u14) - (Int32.toInt64 u21)) + 1)), (0, .ref o)], [], M29) _
        refine ml_st (S' := (119, [(1, .long (((Int32.toInt64 u14) - (Int32.toInt64 u21)) + 1)), (0, .ref o)], [.int 1], M29)) rfl rfl rfl ?_
        exact ml_ret rfl (r_z (Or.inr rfl)) (⟨⟨_, rfl, Or.inr ⟨rfl, _, f31.2.2.1, (tab_sz hk hcl h0 h1 h2 hp c_62 c_84).1, (tab_sz hk hcl h0 h1 h2 hp c_62 c_84).2⟩⟩, hS30⟩)
      · have c_84 : ¬ ((lg_cmp ((((Int32.toInt64 u14) - (Int32.toInt64 u21)) + 1) * 4) (Int32.toInt64 ((cl - sa) - 12))) ≤ 0) := of_decide_eq_false c_84
        refine ml_st (S' := (88, [], [.int 0], M15)) rfl rfl rfl ?_
        exact ml_ret rfl (r_z (Or.inl rfl)) (⟨⟨_, rfl, Or.inl rfl⟩, hS16⟩)
  · have c_11 : ¬ (12 ≤ (cl - sa)) := of_decide_eq_false c_11
    refine ml_st (S' := (15, [(0, .ref o)], [.int 0], M)) rfl rfl rfl ?_
    exact ml_ret rfl (r_z (Or.inl rfl)) (⟨⟨_, rfl, Or.inl rfl⟩, hS⟩)
set_option maxHeartbeats 2000000 in
theorem ti_isLookupTaken {g : xe_G} {M : mi_H} {Y : yT} {o b k da n : Nat} {cl y9 sa : Int32} (hW : WF g Y M) (hY0 : Y.1 o = some (5, [b, k])) (hY1 : Y.1 b = some (1, [da, n])) (hc2 : mi_gf M o 5 2 = some (.int cl)) (hc9 : mi_gf M o 5 9 = some (.int y9)) (hc11 : mi_gf M o 5 11 = some (.int sa)) (hk : k < 1073741824) (hcl : cl.toInt ≤ k) (h0 : 0 ≤ y9.toInt) (hp : y9.toInt < cl.toInt) (h1 : y9.toInt < sa.toInt) (h2 : sa.toInt ≤ y9.toInt + 4) {d : Nat} (hd : 4 ≤ d) : mt (mT g) d 93 [.ref o] M (qS g Y o k y9 M) := by
  obtain ⟨d, rfl⟩ : ∃ e, d = e + 1 := ⟨d - 1, by omega⟩
  have hS : st g Y M M := st.rf hW
  refine mt_in (b := mb_93 g) rfl rfl ?_
  show ml (mT g) d (mb_93 g).2 (0, [(0, .ref o)], [], M) _
  refine ml_st (S' := (1, [(0, .ref o)], [.ref o], M)) rfl rfl rfl ?_
  refine ml_get (S' := (4, [(0, .ref o)], [.int cl], M)) rfl hc2 rfl ?_
  refine ml_st (S' := (5, [(0, .ref o)], [.ref o, .int cl], M)) rfl rfl rfl ?_
  refine ml_get (S' := (8, [(0, .ref o)], [.int sa, .int cl], M)) rfl hc11 rfl ?_
  refine ml_blk 2 (S' := (11, [(0, .ref o)], [.int 8, .int (cl - sa)], M)) rfl ?_
  refine ml_if2 (S1 := (16, [(0, .ref o)], [], M)) (S2 := (14, [(0, .ref o)], [], M)) rfl rfl rfl (fun c_11 => ?_) (fun c_11 => ?_)
  · have c_11 : 8 ≤ (cl - sa) := of_decide_eq_true c_11
    refine ml_blk 3 (S' := (19, [(0, .ref o)], [.ref o, .ref o, .ref o], M)) rfl ?_
    refine ml_get (S' := (22, [(0, .ref o)], [.int sa, .ref o, .ref o], M)) rfl hc11 rfl ?_
    refine ml_blk 2 (S' := (24, [(0, .ref o)], [.int (sa + 4), .ref o, .ref o], M)) rfl ?_
    refine ml_call (a := [.ref o, .int (sa + 4)]) (rest := [.ref o]) rfl (okc_t rfl rfl rfl hS.1 hY0 (by decide)) rfl rfl (ti_s4 hS.1 hY0 hY1 (by omega)) (fun v1 M2 h3 => ?_)
    obtain ⟨⟨u4, rfl⟩, h3⟩ := h3
    rw [h3]
    show ml _ _ _ (27, [(0, .ref o)], [.int u4, .ref o], M) _
    refine tp_put rfl hS hY0 (by decide) rfl (⟨_, rfl⟩) rfl rfl (fun M5 hS6 f7 => ?_)
    have g8 := f7.2.1 2 _ (by decide) hc2
    have g9 := f7.2.1 9 _ (by decide) hc9
    have g10 := f7.2.1 11 _ (by decide) hc11
    show ml _ _ _ (30, [(0, .ref o)], [], M5) _
    refine ml_st (S' := (31, [(0, .ref o)], [.ref o], M5)) rfl rfl rfl ?_
    refine ml_get (S' := (34, [(0, .ref o)], [.int u4], M5)) rfl f7.2.2.1 rfl ?_
    refine ml_if (S1 := (59, [], [], M5)) (S2 := (37, [(0, .ref o)], [], M5)) rfl rfl rfl (fun c_34 => ?_) (fun c_34 => ?_)
    · have c_34 : u4 < 0 := of_decide_eq_true c_34
      refine ml_st (S' := (60, [], [.int 0], M5)) rfl rfl rfl ?_
      exact ml_ret rfl (r_z (Or.inl rfl)) (⟨⟨_, rfl, Or.inl rfl⟩, hS6⟩)
    · have c_34 : ¬ (u4 < 0) := of_decide_eq_false c_34
      refine ml_st (S' := (38, [(0, .ref o)], [.ref o], M5)) rfl rfl rfl ?_
      refine ml_get (S' := (41, [(0, .ref o)], [.int u4], M5)) rfl f7.2.2.1 rfl ?_
      refine ml_st (S' := (42, [(0, .ref o)], [.ref o, .int u4], M5)) rfl rfl rfl ?_
      refine ml_get (S' := (45, [(0, .ref o)], [.int cl, .int u4], M5)) rfl g8 rfl ?_
      refine ml_st (S' := (46, [(0, .ref o)], [.ref o, .int cl, .int u4], M5)) rfl rfl rfl ?_
      refine ml_get (S' := (49, [(0, .ref o)], [.int sa, .int cl, .int u4], M5)) rfl g10 rfl ?_
      refine ml_blk 3 (S' := (53, [(0, .ref o)], [.int ((cl - sa) - 8), .int u4], M5)) rfl ?_
      refine ml_st (S' := (55, [(0, .ref o)], [.int 8, .int ((cl - sa) - 8), .int u4], M5)) rfl rfl rfl ?_
      refine ml_st (S' := (56, [(0, .ref o)], [.int (((cl - sa) - 8) / 8), .int u4], M5)) rfl rfl rfl ?_
      refine ml_if2 (S1 := (61, [(0, .ref o)], [], M5)) (S2 := (59, [], [], M5)) rfl rfl rfl (fun c_56 => ?_) (fun c_56 => ?_)
      · have c_56 : u4 ≤ (((cl - sa) - 8) / 8) := of_decide_eq_true c_56
        refine ml_blk 2 (S' := (63, [(0, .ref o)], [.ref o, .ref o], M5)) rfl ?_
        refine ml_get (S' := (66, [(0, .ref o)], [.int u4, .ref o], M5)) rfl f7.2.2.1 rfl ?_
        refine ml_blk 2 (S' := (68, [(0, .ref o)], [.int (u4 + 1), .ref o], M5)) rfl ?_
        refine tp_put rfl hS6 hY0 (by decide) rfl (⟨_, rfl⟩) rfl rfl (fun M11 hS12 f13 => ?_)
        have g14 := f13.2.1 2 _ (by decide) g8
        have g15 := f13.2.1 9 _ (by decide) g9
        have g16 := f13.2.1 11 _ (by decide) g10
        have g17 := f13.2.1 5 _ (by decide) f7.2.2.1
        show ml _ _ _ (71, [(0, .ref o)], [], M11) _
        refine ml_blk 2 (S' := (73, [(0, .ref o)], [.ref o, .ref o], M11)) rfl ?_
        refine ml_get (S' := (76, [(0, .ref o)], [.int sa, .ref o], M11)) rfl g16 rfl ?_
        refine ml_blk 3 (S' := (81, [(0, .ref o)], [.int 8, .int (sa + 8), .ref o], M11)) rfl ?_
        refine ml_st (S' := (82, [(0, .ref o)], [.ref o, .int 8, .int (sa + 8), .ref o], M11)) rfl rfl rfl ?_
        refine ml_get (S' := (85, [(0, .ref o)], [.int u4, .int 8, .int (sa + 8), .ref o], M11)) rfl g17 rfl ?_
        refine ml_blk 3 (S' := (88, [(0, .ref o)], [.ref o, .int ((sa + 8) + (8 * u4)), .ref o], M11)) rfl ?_
        refine ml_get (S' := (91, [(0, .ref o)], [.int y9, .int ((sa + 8) + (8 * u4)), .ref o], M11)) rfl g15 rfl ?_
        refine ml_st (S' := (92, [(0, .ref o)], [.int (((sa + 8) + (8 * u4)) - y9), .ref o], M11)) rfl rfl rfl ?_
        refine tp_put rfl hS12 hY0 (by decide) rfl (⟨_, rfl⟩) rfl rfl (fun M18 hS19 f20 => ?_)
        have g21 := f20.2.1 2 _ (by decide) g14
        have g22 := f20.2.1 9 _ (by decide) g15
        have g23 := f20.2.1 11 _ (by decide) g16
        have g24 := f20.2.1 5 _ (by decide) g17
        show ml _ _ _ (95, [(0, .ref o)], [], M18) _
        refine ml_st (S' := (96, [(0, .ref o)], [.int 2], M18)) rfl rfl rfl ?_
        refine ml_st (S' := (97, [(0, .ref o), (1, .int 2)], [], M18)) rfl rfl rfl ?_
        have L_97 : ∀ (n_97 : Nat) (i97_1 : Int32), (2147483648 - i97_1.toInt).toNat ≤ n_97 → ml (mT g) d (mb_93 g).2 (97, [(0, .ref o), (1, .int i97_1)], [], M18) (qS g Y o k y9 M) := by
          intro n_97
          induction n_97 with
          | zero => intro i97_1 hn; exact (loop_zero hn).elim
          | succ n_97 ih_97 =>
            intro i97_1 hn_97
            refine ml_blk 2 (S' := (99, [(0, .ref o), (1, .int i97_1)], [.ref o, .int i97_1], M18)) rfl ?_
            refine tg_int rfl hS19.1 hY0 (by decide) rfl (fun u25 g26 => ?_)
            show ml _ _ _ (102, [(0, .ref o), (1, .int i97_1)], [.int u25, .int i97_1], M18) _
            refine ml_if2 (S1 := (128, [(0, .ref o), (1, .int i97_1)], [], M18)) (S2 := (105, [(0, .ref o), (1, .int i97_1)], [], M18)) rfl rfl rfl (fun c_102 => ?_) (fun c_102 => ?_)
            · have c_102 : u25 ≤ i97_1 := of_decide_eq_true c_102
              refine ml_st (S' := (129, [(0, .ref o), (1, .int i97_1)], [.int 1], M18)) rfl rfl rfl ?_
              exact ml_ret rfl (r_z (Or.inr rfl)) (⟨⟨_, rfl, Or.inr ⟨rfl, _, f20.2.2.1, (look_sz hk hcl h0 h1 h2 hp c_11 c_34 c_56).1, (look_sz hk hcl h0 h1 h2 hp c_11 c_34 c_56).2⟩⟩, hS19⟩)
            · have c_102 : ¬ (u25 ≤ i97_1) := of_decide_eq_false c_102
              refine ml_blk 3 (S' := (108, [(0, .ref o), (1, .int i97_1)], [.int 1, .int i97_1, .ref o], M18)) rfl ?_
              refine ml_st (S' := (109, [(0, .ref o), (1, .int i97_1)], [.int (i97_1 - 1), .ref o], M18)) rfl rfl rfl ?_
              refine ml_call (a := [.ref o, .int (i97_1 - 1)]) (rest := []) rfl (okc_t rfl rfl rfl hS19.1 hY0 (by decide)) rfl rfl (ti_keyOf hS19.1 hY0 hY1 (by omega)) (fun v27 M28 h29 => ?_)
              obtain ⟨⟨u30, rfl⟩, h29⟩ := h29
              rw [h29]
              show ml _ _ _ (112, [(0, .ref o), (1, .int i97_1)], [.int u30], M18) _
              refine ml_blk 2 (S' := (114, [(0, .ref o), (1, .int i97_1)], [.int i97_1, .ref o, .int u30], M18)) rfl ?_
              refine ml_call (a := [.ref o, .int i97_1]) (rest := [.int u30]) rfl (okc_t rfl rfl rfl hS19.1 hY0 (by decide)) rfl rfl (ti_keyOf hS19.1 hY0 hY1 (by omega)) (fun v31 M32 h33 => ?_)
              obtain ⟨⟨u34, rfl⟩, h33⟩ := h33
              rw [h33]
              show ml _ _ _ (117, [(0, .ref o), (1, .int i97_1)], [.int u34, .int u30], M18) _
              refine ml_if2 (S1 := (122, [(0, .ref o), (1, .int i97_1)], [], M18)) (S2 := (120, [(0, .ref o), (1, .int i97_1)], [], M18)) rfl rfl rfl (fun c_117 => ?_) (fun c_117 => ?_)
              · have c_117 : u30 < u34 := of_decide_eq_true c_117
                refine ml_st (S' := (125, [(1, .int (i97_1 + 1)), (0, .ref o)], [], M18)) rfl rfl rfl ?_
                refine ml_st (S' := (97, [(0, .ref o), (1, .int (i97_1 + 1))], [], M18)) rfl rfl rfl ?_
                exact ih_97 (i97_1 + 1) (loop_inc (Int32.not_le.mp c_102) hn_97) 
              · have c_117 : ¬ (u30 < u34) := of_decide_eq_false c_117
                refine ml_st (S' := (121, [(0, .ref o), (1, .int i97_1)], [.int 0], M18)) rfl rfl rfl ?_
                exact ml_ret rfl (r_z (Or.inl rfl)) (⟨⟨_, rfl, Or.inl rfl⟩, hS19⟩)
        exact L_97 _ 2 (Nat.le_refl _) 
      · have c_56 : ¬ (u4 ≤ (((cl - sa) - 8) / 8)) := of_decide_eq_false c_56
        refine ml_st (S' := (60, [], [.int 0], M5)) rfl rfl rfl ?_
        exact ml_ret rfl (r_z (Or.inl rfl)) (⟨⟨_, rfl, Or.inl rfl⟩, hS6⟩)
  · have c_11 : ¬ (8 ≤ (cl - sa)) := of_decide_eq_false c_11
    refine ml_st (S' := (15, [(0, .ref o)], [.int 0], M)) rfl rfl rfl ?_
    exact ml_ret rfl (r_z (Or.inl rfl)) (⟨⟨_, rfl, Or.inl rfl⟩, hS⟩)
set_option maxHeartbeats 2000000 in
theorem ti_isSwitchTaken {g : xe_G} {M : mi_H} {Y : yT} {o b k da n : Nat} {cl y9 : Int32} (hW : WF g Y M) (hY0 : Y.1 o = some (5, [b, k])) (hY1 : Y.1 b = some (1, [da, n])) (hc2 : mi_gf M o 5 2 = some (.int cl)) (hc9 : mi_gf M o 5 9 = some (.int y9)) (hk : k < 1073741824) (hcl : cl.toInt ≤ k) (h0 : 0 ≤ y9.toInt) (hp : y9.toInt < cl.toInt) {d : Nat} (hd : 5 ≤ d) : mt (mT g) d 96 [.ref o] M (qS g Y o k y9 M) := by
  obtain ⟨d, rfl⟩ : ∃ e, d = e + 1 := ⟨d - 1, by omega⟩
  have hS : st g Y M M := st.rf hW
  refine mt_in (b := mb_96 g) rfl rfl ?_
  show ml (mT g) d (mb_96 g).2 (0, [(0, .ref o)], [], M) _
  refine ml_blk 2 (S' := (2, [(0, .ref o)], [.ref o, .ref o], M)) rfl ?_
  refine ml_get (S' := (5, [(0, .ref o)], [.int y9, .ref o], M)) rfl hc9 rfl ?_
  refine ml_blk 3 (S' := (9, [(0, .ref o)], [.int 4, .int (y9 &&& (-4)), .ref o], M)) rfl ?_
  refine ml_st (S' := (10, [(0, .ref o)], [.int ((y9 &&& (-4)) + 4), .ref o], M)) rfl rfl rfl ?_
  refine tp_put rfl hS hY0 (by decide) rfl (⟨_, rfl⟩) rfl rfl (fun M1 hS2 f3 => ?_)
  have g4 := f3.2.1 2 _ (by decide) hc2
  have g5 := f3.2.1 9 _ (by decide) hc9
  show ml _ _ _ (13, [(0, .ref o)], [], M1) _
  refine ml_st (S' := (14, [(0, .ref o)], [.ref o], M1)) rfl rfl rfl ?_
  refine ml_get (S' := (17, [(0, .ref o)], [.int y9], M1)) rfl g5 rfl ?_
  refine ml_blk 2 (S' := (19, [(0, .ref o)], [.int (y9 + 1)], M1)) rfl ?_
  refine ml_st (S' := (20, [(0, .ref o), (1, .int (y9 + 1))], [], M1)) rfl rfl rfl ?_
  have L_20 : ∀ (n_20 : Nat) (i20_1 : Int32), (2147483648 - i20_1.toInt).toNat ≤ n_20 → ml (mT g) d (mb_96 g).2 (20, [(0, .ref o), (1, .int i20_1)], [], M1) (qS g Y o k y9 M) := by
    intro n_20
    induction n_20 with
    | zero => intro i20_1 hn; exact (loop_zero hn).elim
    | succ n_20 ih_20 =>
      intro i20_1 hn_20
      refine ml_blk 2 (S' := (22, [(0, .ref o), (1, .int i20_1)], [.ref o, .int i20_1], M1)) rfl ?_
      refine ml_get (S' := (25, [(0, .ref o), (1, .int i20_1)], [.int ((y9 &&& (-4)) + 4), .int i20_1], M1)) rfl f3.2.2.1 rfl ?_
      refine ml_if2 (S1 := (44, [(0, .ref o), (1, .int i20_1)], [], M1)) (S2 := (28, [(0, .ref o), (1, .int i20_1)], [], M1)) rfl rfl rfl (fun c_25 => ?_) (fun c_25 => ?_)
      · have c_25 : ((y9 &&& (-4)) + 4) ≤ i20_1 := of_decide_eq_true c_25
        refine ml_st (S' := (45, [(0, .ref o), (1, .int i20_1)], [.ref o], M1)) rfl rfl rfl ?_
        refine tg_int rfl hS2.1 hY0 (by decide) rfl (fun u6 g7 => ?_)
        show ml _ _ _ (48, [(0, .ref o), (1, .int i20_1)], [.int u6], M1) _
        refine ml_st (S' := (51, [(0, .ref o), (1, .int i20_1)], [.int 170, .int u6], M1)) rfl rfl rfl ?_
        refine ml_if2 (S1 := (61, [(0, .ref o), (1, .int i20_1)], [], M1)) (S2 := (54, [(0, .ref o), (1, .int i20_1)], [], M1)) rfl rfl rfl (fun c_51 => ?_) (fun c_51 => ?_)
        · have c_51 : ¬ u6 = 170 := of_decide_eq_true c_51
          refine ml_st (S' := (62, [(0, .ref o), (1, .int i20_1)], [.ref o], M1)) rfl rfl rfl ?_
          refine ml_call (a := [.ref o]) (rest := []) rfl (okc_t rfl rfl rfl hS2.1 hY0 (by decide)) rfl rfl (ti_isLookupTaken hS2.1 hY0 hY1 g4 g5 f3.2.2.1 (hk) (hcl) (h0) (hp) ((pad4 h0 (by omega)).1) ((pad4 h0 (by omega)).2) (by omega)) (fun v8 M9 h10 => ?_)
          obtain ⟨⟨u11, rfl, z12⟩, h10⟩ := h10
          have hS13 := hS2.tr h10
          show ml _ _ _ (65, [], [.int u11], M9) _
          exact ml_ret rfl (r_z (qS_z z12)) (⟨⟨_, rfl, z12⟩, hS13⟩)
        · have c_51 : ¬ (¬ u6 = 170) := of_decide_eq_false c_51
          refine ml_st (S' := (55, [(0, .ref o), (1, .int i20_1)], [.ref o], M1)) rfl rfl rfl ?_
          refine ml_call (a := [.ref o]) (rest := []) rfl (okc_t rfl rfl rfl hS2.1 hY0 (by decide)) rfl rfl (ti_isTableTaken hS2.1 hY0 hY1 g4 g5 f3.2.2.1 (hk) (hcl) (h0) (hp) ((pad4 h0 (by omega)).1) ((pad4 h0 (by omega)).2) (by omega)) (fun v14 M15 h16 => ?_)
          obtain ⟨⟨u17, rfl, z18⟩, h16⟩ := h16
          have hS19 := hS2.tr h16
          show ml _ _ _ (58, [(0, .ref o), (1, .int i20_1)], [.int u17], M15) _
          refine ml_st (S' := (65, [], [.int u17], M15)) rfl rfl rfl ?_
          exact ml_ret rfl (r_z (qS_z z18)) (⟨⟨_, rfl, z18⟩, hS19⟩)
      · have c_25 : ¬ (((y9 &&& (-4)) + 4) ≤ i20_1) := of_decide_eq_false c_25
        refine ml_blk 2 (S' := (30, [(0, .ref o), (1, .int i20_1)], [.int i20_1, .ref o], M1)) rfl ?_
        refine ml_call (a := [.ref o, .int i20_1]) (rest := []) rfl (okc_t rfl rfl rfl hS2.1 hY0 (by decide)) rfl rfl (ti_u1 hS2.1 hY0 hY1 (by omega)) (fun v20 M21 h22 => ?_)
        obtain ⟨⟨u23, rfl⟩, h22⟩ := h22
        rw [h22]
        show ml _ _ _ (33, [(0, .ref o), (1, .int i20_1)], [.int u23], M1) _
        refine ml_if (S1 := (38, [(0, .ref o), (1, .int i20_1)], [], M1)) (S2 := (36, [(0, .ref o), (1, .int i20_1)], [], M1)) rfl rfl rfl (fun c_33 => ?_) (fun c_33 => ?_)
        · have c_33 : u23 = 0 := of_decide_eq_true c_33
          refine ml_st (S' := (41, [(1, .int (i20_1 + 1)), (0, .ref o)], [], M1)) rfl rfl rfl ?_
          refine ml_st (S' := (20, [(0, .ref o), (1, .int (i20_1 + 1))], [], M1)) rfl rfl rfl ?_
          exact ih_20 (i20_1 + 1) (loop_inc (Int32.not_le.mp c_25) hn_20) 
        · have c_33 : ¬ (u23 = 0) := of_decide_eq_false c_33
          refine ml_st (S' := (37, [(0, .ref o), (1, .int i20_1)], [.int 0], M1)) rfl rfl rfl ?_
          exact ml_ret rfl (r_z (Or.inl rfl)) (⟨⟨_, rfl, Or.inl rfl⟩, hS2⟩)
  exact L_20 _ (y9 + 1) (Nat.le_refl _) 
set_option maxHeartbeats 2000000 in
theorem ti_isTakenApart {g : xe_G} {M : mi_H} {Y : yT} {o b k da n : Nat} {x1 : Int32}  (hW : WF g Y M) (hY0 : Y.1 o = some (5, [b, k])) (hY1 : Y.1 b = some (1, [da, n])) {d : Nat} (hd : 6 ≤ d) : mt (mT g) d 98 [.ref o, .int x1] M (qS g Y o k x1 M) := by
  obtain ⟨d, rfl⟩ : ∃ e, d = e + 1 := ⟨d - 1, by omega⟩
  have hS : st g Y M M := st.rf hW
  refine mt_in (b := mb_98 g) rfl rfl ?_
  show ml (mT g) d (mb_98 g).2 (0, [(0, .ref o), (1, .int x1)], [], M) _
  obtain ⟨hk, cl, hc2, -, hcl⟩ := hW.inst hY0
  refine ml_blk 2 (S' := (2, [(0, .ref o), (1, .int x1)], [.int x1, .ref o], M)) rfl ?_
  refine tp_put rfl hS hY0 (by decide) rfl (⟨_, rfl⟩) rfl rfl (fun M1 hS2 f3 => ?_)
  have g4 := f3.2.1 2 _ (by decide) hc2
  show ml _ _ _ (5, [(0, .ref o), (1, .int x1)], [], M1) _
  refine ml_blk 3 (S' := (8, [(0, .ref o), (1, .int x1)], [.int x1, .ref o, .ref o], M1)) rfl ?_
  refine ml_call (a := [.ref o, .int x1]) (rest := [.ref o]) rfl (okc_t rfl rfl rfl hS2.1 hY0 (by decide)) rfl rfl (ti_u1 hS2.1 hY0 hY1 (by omega)) (fun v5 M6 h7 => ?_)
  obtain ⟨⟨u8, rfl⟩, h7⟩ := h7
  rw [h7]
  show ml _ _ _ (11, [(0, .ref o), (1, .int x1)], [.int u8, .ref o], M1) _
  refine tp_put rfl hS2 hY0 (by decide) rfl (⟨_, rfl⟩) rfl rfl (fun M9 hS10 f11 => ?_)
  have g12 := f11.2.1 2 _ (by decide) g4
  have g13 := f11.2.1 9 _ (by decide) f3.2.2.1
  show ml _ _ _ (14, [(0, .ref o), (1, .int x1)], [], M9) _
  refine ml_blk 2 (S' := (16, [(0, .ref o), (1, .int x1)], [.int 1, .ref o], M9)) rfl ?_
  refine tp_put rfl hS10 hY0 (by decide) rfl (⟨_, rfl⟩) rfl rfl (fun M14 hS15 f16 => ?_)
  have g17 := f16.2.1 2 _ (by decide) g12
  have g18 := f16.2.1 3 _ (by decide) f11.2.2.1
  have g19 := f16.2.1 9 _ (by decide) g13
  show ml _ _ _ (19, [(0, .ref o), (1, .int x1)], [], M14) _
  refine ml_blk 2 (S' := (21, [(0, .ref o), (1, .int x1)], [.int 0, .ref o], M14)) rfl ?_
  refine tp_put rfl hS15 hY0 (by decide) rfl (⟨_, rfl⟩) rfl rfl (fun M20 hS21 f22 => ?_)
  have g23 := f22.2.1 2 _ (by decide) g17
  have g24 := f22.2.1 3 _ (by decide) g18
  have g25 := f22.2.1 9 _ (by decide) g19
  have g26 := f22.2.1 4 _ (by decide) f16.2.2.1
  show ml _ _ _ (24, [(0, .ref o), (1, .int x1)], [], M20) _
  refine ml_blk 2 (S' := (26, [(0, .ref o), (1, .int x1)], [.int 0, .ref o], M20)) rfl ?_
  refine tp_put rfl hS21 hY0 (by decide) rfl (⟨_, rfl⟩) rfl rfl (fun M27 hS28 f29 => ?_)
  have g30 := f29.2.1 2 _ (by decide) g23
  have g31 := f29.2.1 3 _ (by decide) g24
  have g32 := f29.2.1 9 _ (by decide) g25
  have g33 := f29.2.1 4 _ (by decide) g26
  show ml _ _ _ (29, [(0, .ref o), (1, .int x1)], [], M27) _
  refine ml_blk 2 (S' := (31, [(0, .ref o), (1, .int x1)], [.int 0, .ref o], M27)) rfl ?_
  refine tp_put rfl hS28 hY0 (by decide) rfl (⟨_, rfl⟩) rfl rfl (fun M34 hS35 f36 => ?_)
  have g37 := f36.2.1 2 _ (by decide) g30
  have g38 := f36.2.1 3 _ (by decide) g31
  have g39 := f36.2.1 9 _ (by decide) g32
  have g40 := f36.2.1 4 _ (by decide) g33
  show ml _ _ _ (34, [(0, .ref o), (1, .int x1)], [], M34) _
  refine ml_blk 2 (S' := (36, [(0, .ref o), (1, .int x1)], [.int 0, .ref o], M34)) rfl ?_
  refine tp_put rfl hS35 hY0 (by decide) rfl (⟨_, rfl⟩) rfl rfl (fun M41 hS42 f43 => ?_)
  have g44 := f43.2.1 2 _ (by decide) g37
  have g45 := f43.2.1 3 _ (by decide) g38
  have g46 := f43.2.1 9 _ (by decide) g39
  have g47 := f43.2.1 4 _ (by decide) g40
  show ml _ _ _ (39, [(0, .ref o), (1, .int x1)], [], M41) _
  refine ml_st (S' := (40, [(0, .ref o), (1, .int x1)], [.int x1], M41)) rfl rfl rfl ?_
  refine ml_if (S1 := (61, [], [], M41)) (S2 := (43, [(0, .ref o), (1, .int x1)], [], M41)) rfl rfl rfl (fun c_40 => ?_) (fun c_40 => ?_)
  · have c_40 : x1 < 0 := of_decide_eq_true c_40
    refine ml_st (S' := (62, [], [.int 0], M41)) rfl rfl rfl ?_
    exact ml_ret rfl (r_z (Or.inl rfl)) (⟨⟨_, rfl, Or.inl rfl⟩, hS42⟩)
  · have c_40 : ¬ (x1 < 0) := of_decide_eq_false c_40
    refine ml_blk 2 (S' := (45, [(0, .ref o), (1, .int x1)], [.ref o, .int x1], M41)) rfl ?_
    refine ml_get (S' := (48, [(0, .ref o), (1, .int x1)], [.int cl, .int x1], M41)) rfl g44 rfl ?_
    refine ml_if2 (S1 := (61, [], [], M41)) (S2 := (51, [(0, .ref o), (1, .int x1)], [], M41)) rfl rfl rfl (fun c_48 => ?_) (fun c_48 => ?_)
    · have c_48 : cl ≤ x1 := of_decide_eq_true c_48
      refine ml_st (S' := (62, [], [.int 0], M41)) rfl rfl rfl ?_
      exact ml_ret rfl (r_z (Or.inl rfl)) (⟨⟨_, rfl, Or.inl rfl⟩, hS42⟩)
    · have c_48 : ¬ (cl ≤ x1) := of_decide_eq_false c_48
      refine ml_st (S' := (52, [(0, .ref o), (1, .int x1)], [.ref o], M41)) rfl rfl rfl ?_
      refine ml_get (S' := (55, [(0, .ref o), (1, .int x1)], [.int u8], M41)) rfl g45 rfl ?_
      refine ml_st (S' := (58, [(0, .ref o), (1, .int x1)], [.int 201, .int u8], M41)) rfl rfl rfl ?_
      refine ml_if2 (S1 := (63, [(0, .ref o), (1, .int x1)], [], M41)) (S2 := (61, [], [], M41)) rfl rfl rfl (fun c_58 => ?_) (fun c_58 => ?_)
      · have c_58 : u8 ≤ 201 := of_decide_eq_true c_58
        refine ml_st (S' := (64, [(0, .ref o), (1, .int x1)], [.ref o], M41)) rfl rfl rfl ?_
        refine ml_call (a := [.ref o]) (rest := []) rfl (okc_t rfl rfl rfl hS42.1 hY0 (by decide)) rfl rfl (ti_isSwitch hS42.1 hY0 hY1 (by omega)) (fun v48 M49 h50 => ?_)
        obtain ⟨⟨u51, rfl, z52⟩, h50⟩ := h50
        rw [h50]
        show ml _ _ _ (67, [(0, .ref o), (1, .int x1)], [.int u51], M41) _
        refine ml_if (S1 := (75, [(0, .ref o), (1, .int x1)], [], M41)) (S2 := (70, [(0, .ref o), (1, .int x1)], [], M41)) rfl rfl rfl (fun c_67 => ?_) (fun c_67 => ?_)
        · have c_67 : u51 = 0 := of_decide_eq_true c_67
          refine ml_st (S' := (76, [(0, .ref o), (1, .int x1)], [.ref o], M41)) rfl rfl rfl ?_
          refine ml_get (S' := (79, [(0, .ref o), (1, .int x1)], [.int u8], M41)) rfl g45 rfl ?_
          refine ml_st (S' := (82, [(0, .ref o), (1, .int x1)], [.int 196, .int u8], M41)) rfl rfl rfl ?_
          refine ml_if2 (S1 := (90, [(0, .ref o), (1, .int x1)], [], M41)) (S2 := (85, [(0, .ref o), (1, .int x1)], [], M41)) rfl rfl rfl (fun c_82 => ?_) (fun c_82 => ?_)
          · have c_82 : ¬ u8 = 196 := of_decide_eq_true c_82
            refine ml_blk 2 (S' := (92, [(0, .ref o), (1, .int x1)], [.ref o, .ref o], M41)) rfl ?_
            refine ml_get (S' := (95, [(0, .ref o), (1, .int x1)], [.int u8, .ref o], M41)) rfl g45 rfl ?_
            refine ml_call (a := [.int u8]) (rest := [.ref o]) rfl (rfl) rfl rfl (ti_sizeOf hS42.1  (by omega)) (fun v53 M54 h55 => ?_)
            obtain ⟨⟨u56, rfl, z57⟩, h55⟩ := h55
            rw [h55]
            show ml _ _ _ (98, [(0, .ref o), (1, .int x1)], [.int u56, .ref o], M41) _
            refine tp_put rfl hS42 hY0 (by decide) rfl (⟨_, rfl⟩) rfl rfl (fun M58 hS59 f60 => ?_)
            have g61 := f60.2.1 2 _ (by decide) g44
            have g62 := f60.2.1 3 _ (by decide) g45
            have g63 := f60.2.1 9 _ (by decide) g46
            show ml _ _ _ (101, [(0, .ref o), (1, .int x1)], [], M58) _
            refine ml_st (S' := (102, [(0, .ref o), (1, .int x1)], [.ref o], M58)) rfl rfl rfl ?_
            refine ml_get (S' := (105, [(0, .ref o), (1, .int x1)], [.int u56], M58)) rfl f60.2.2.1 rfl ?_
            refine ml_st (S' := (106, [(0, .ref o), (1, .int x1)], [.ref o, .int u56], M58)) rfl rfl rfl ?_
            refine ml_get (S' := (109, [(0, .ref o), (1, .int x1)], [.int cl, .int u56], M58)) rfl g61 rfl ?_
            refine ml_st (S' := (110, [(0, .ref o), (1, .int x1)], [.ref o, .int cl, .int u56], M58)) rfl rfl rfl ?_
            refine ml_get (S' := (113, [(0, .ref o), (1, .int x1)], [.int x1, .int cl, .int u56], M58)) rfl g63 rfl ?_
            refine ml_st (S' := (114, [(0, .ref o), (1, .int x1)], [.int (cl - x1), .int u56], M58)) rfl rfl rfl ?_
            refine ml_if2 (S1 := (128, [], [], M58)) (S2 := (117, [(0, .ref o), (1, .int x1)], [], M58)) rfl rfl rfl (fun c_114 => ?_) (fun c_114 => ?_)
            · have c_114 : (cl - x1) < u56 := of_decide_eq_true c_114
              refine ml_st (S' := (129, [], [.int 0], M58)) rfl rfl rfl ?_
              exact ml_ret rfl (r_z (Or.inl rfl)) (⟨⟨_, rfl, Or.inl rfl⟩, hS59⟩)
            · have c_114 : ¬ ((cl - x1) < u56) := of_decide_eq_false c_114
              refine ml_st (S' := (118, [(0, .ref o), (1, .int x1)], [.ref o], M58)) rfl rfl rfl ?_
              refine ml_call (a := [.ref o]) (rest := []) rfl (okc_t rfl rfl rfl hS59.1 hY0 (by decide)) rfl rfl (ti_areOperandsTaken hS59.1 hY0 hY1 (by omega)) (fun v64 M65 h66 => ?_)
              obtain ⟨⟨u67, rfl, z68⟩, h66⟩ := h66
              have g69 := h66.2 2 _ rfl g61
              have g70 := h66.2 9 _ rfl g63
              have g71 := h66.2 4 _ rfl f60.2.2.1
              have hS72 := hS59.tr h66.1
              show ml _ _ _ (121, [(0, .ref o), (1, .int x1)], [.int u67], M65) _
              refine ml_if (S1 := (128, [], [], M65)) (S2 := (124, [(0, .ref o), (1, .int x1)], [], M65)) rfl rfl rfl (fun c_121 => ?_) (fun c_121 => ?_)
              · have c_121 : u67 = 0 := of_decide_eq_true c_121
                refine ml_st (S' := (129, [], [.int 0], M65)) rfl rfl rfl ?_
                exact ml_ret rfl (r_z (Or.inl rfl)) (⟨⟨_, rfl, Or.inl rfl⟩, hS72⟩)
              · have c_121 : ¬ (u67 = 0) := of_decide_eq_false c_121
                refine ml_st (S' := (125, [(0, .ref o), (1, .int x1)], [.int 1], M65)) rfl rfl rfl ?_
                refine ml_st (S' := (129, [], [.int 1], M65)) rfl rfl rfl ?_
                exact ml_ret rfl (r_z (Or.inr rfl)) (⟨⟨_, rfl, Or.inr ⟨rfl, _, g71, z57, sz_in hk hcl (nneg c_40) (i_nle c_48) (Int32.not_lt.mp c_114)⟩⟩, hS72⟩)
          · have c_82 : ¬ (¬ u8 = 196) := of_decide_eq_false c_82
            refine ml_st (S' := (86, [(0, .ref o), (1, .int x1)], [.ref o], M41)) rfl rfl rfl ?_
            refine ml_call (a := [.ref o]) (rest := []) rfl (okc_t rfl rfl rfl hS42.1 hY0 (by decide)) rfl rfl (ti_isWideTaken hS42.1 hY0 hY1 g44 g46 (hk) (hcl) (nneg c_40) (i_nle c_48) (by omega)) (fun v73 M74 h75 => ?_)
            obtain ⟨⟨u76, rfl, z77⟩, h75⟩ := h75
            have hS78 := hS42.tr h75
            show ml _ _ _ (89, [(0, .ref o), (1, .int x1)], [.int u76], M74) _
            exact ml_ret rfl (r_z (qS_z z77)) (⟨⟨_, rfl, z77⟩, hS78⟩)
        · have c_67 : ¬ (u51 = 0) := of_decide_eq_false c_67
          refine ml_st (S' := (71, [(0, .ref o), (1, .int x1)], [.ref o], M41)) rfl rfl rfl ?_
          refine ml_call (a := [.ref o]) (rest := []) rfl (okc_t rfl rfl rfl hS42.1 hY0 (by decide)) rfl rfl (ti_isSwitchTaken hS42.1 hY0 hY1 g44 g46 (hk) (hcl) (nneg c_40) (i_nle c_48) (by omega)) (fun v79 M80 h81 => ?_)
          obtain ⟨⟨u82, rfl, z83⟩, h81⟩ := h81
          have hS84 := hS42.tr h81
          show ml _ _ _ (74, [(0, .ref o), (1, .int x1)], [.int u82], M80) _
          exact ml_ret rfl (r_z (qS_z z83)) (⟨⟨_, rfl, z83⟩, hS84⟩)
      · have c_58 : ¬ (u8 ≤ 201) := of_decide_eq_false c_58
        refine ml_st (S' := (62, [], [.int 0], M41)) rfl rfl rfl ?_
        exact ml_ret rfl (r_z (Or.inl rfl)) (⟨⟨_, rfl, Or.inl rfl⟩, hS42⟩)
