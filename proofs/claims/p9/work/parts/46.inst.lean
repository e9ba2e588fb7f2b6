/-! one instruction (laid by wip/p2/c46.py) -/
set_option maxHeartbeats 2000000 in
theorem ti_u1 {g : xe_G} {M : mi_H} {Y : yT} {o b k da n : Nat} {x1 : Int32}  (hW : WF g Y M) (hY0 : Y.1 o = some (5, [b, k])) (hY1 : Y.1 b = some (1, [da, n])) {d : Nat} (hd : 2 ≤ d) : mt (mT g) d 104 [.ref o, .int x1] M (pI M) := by
  obtain ⟨d, rfl⟩ : ∃ e, d = e + 1 := ⟨d - 1, by omega⟩
  have hS : st g Y M M := st.rf hW
  refine mt_in (b := mb_104 g) rfl rfl ?_
  show ml (mT g) d (mb_104 g).2 (0, [(0, .ref o), (1, .int x1)], [], M) _
  refine ml_st (S' := (1, [(0, .ref o), (1, .int x1)], [.ref o], M)) rfl rfl rfl ?_
  refine tg_ref (S' := (4, [(0, .ref o), (1, .int x1)], [.ref b], M)) rfl hS.1 hY0 (by decide) rfl rfl ?_
  refine ml_st (S' := (5, [(0, .ref o), (1, .int x1)], [.ref o, .ref b], M)) rfl rfl rfl ?_
  refine tg_int rfl hS.1 hY0 (by decide) rfl (fun u1 g2 => ?_)
  show ml _ _ _ (8, [(0, .ref o), (1, .int x1)], [.int u1, .ref b], M) _
  refine ml_blk 2 (S' := (10, [(0, .ref o), (1, .int x1)], [.int (u1 + x1), .ref b], M)) rfl ?_
  refine ml_call (a := [.ref b, .int (u1 + x1)]) (rest := []) rfl (okc_t rfl rfl rfl hS.1 hY1 (by decide)) rfl rfl (tq_u1 hS.1 hY1 (by omega)) (fun v3 M4 h5 => ?_)
  obtain ⟨⟨u6, rfl⟩, h5⟩ := h5
  rw [h5]
  show ml _ _ _ (13, [(0, .ref o), (1, .int x1)], [.int u6], M) _
  exact ml_ret rfl (rfl) (⟨⟨_, rfl⟩, rfl⟩)
set_option maxHeartbeats 2000000 in
theorem ti_u2 {g : xe_G} {M : mi_H} {Y : yT} {o b k da n : Nat} {x1 : Int32}  (hW : WF g Y M) (hY0 : Y.1 o = some (5, [b, k])) (hY1 : Y.1 b = some (1, [da, n])) {d : Nat} (hd : 2 ≤ d) : mt (mT g) d 105 [.ref o, .int x1] M (pI M) := by
  obtain ⟨d, rfl⟩ : ∃ e, d = e + 1 := ⟨d - 1, by omega⟩
  have hS : st g Y M M := st.rf hW
  refine mt_in (b := mb_105 g) rfl rfl ?_
  show ml (mT g) d (mb_105 g).2 (0, [(0, .ref o), (1, .int x1)], [], M) _
  refine ml_st (S' := (1, [(0, .ref o), (1, .int x1)], [.ref o], M)) rfl rfl rfl ?_
  refine tg_ref (S' := (4, [(0, .ref o), (1, .int x1)], [.ref b], M)) rfl hS.1 hY0 (by decide) rfl rfl ?_
  refine ml_st (S' := (5, [(0, .ref o), (1, .int x1)], [.ref o, .ref b], M)) rfl rfl rfl ?_
  refine tg_int rfl hS.1 hY0 (by decide) rfl (fun u1 g2 => ?_)
  show ml _ _ _ (8, [(0, .ref o), (1, .int x1)], [.int u1, .ref b], M) _
  refine ml_blk 2 (S' := (10, [(0, .ref o), (1, .int x1)], [.int (u1 + x1), .ref b], M)) rfl ?_
  refine ml_call (a := [.ref b, .int (u1 + x1)]) (rest := []) rfl (okc_t rfl rfl rfl hS.1 hY1 (by decide)) rfl rfl (tq_u2 hS.1 hY1 (by omega)) (fun v3 M4 h5 => ?_)
  obtain ⟨⟨u6, rfl⟩, h5⟩ := h5
  rw [h5]
  show ml _ _ _ (13, [(0, .ref o), (1, .int x1)], [.int u6], M) _
  exact ml_ret rfl (rfl) (⟨⟨_, rfl⟩, rfl⟩)
set_option maxHeartbeats 2000000 in
theorem ti_s4 {g : xe_G} {M : mi_H} {Y : yT} {o b k da n : Nat} {x1 : Int32}  (hW : WF g Y M) (hY0 : Y.1 o = some (5, [b, k])) (hY1 : Y.1 b = some (1, [da, n])) {d : Nat} (hd : 2 ≤ d) : mt (mT g) d 101 [.ref o, .int x1] M (pI M) := by
  obtain ⟨d, rfl⟩ : ∃ e, d = e + 1 := ⟨d - 1, by omega⟩
  have hS : st g Y M M := st.rf hW
  refine mt_in (b := mb_101 g) rfl rfl ?_
  show ml (mT g) d (mb_101 g).2 (0, [(0, .ref o), (1, .int x1)], [], M) _
  refine ml_st (S' := (1, [(0, .ref o), (1, .int x1)], [.ref o], M)) rfl rfl rfl ?_
  refine tg_ref (S' := (4, [(0, .ref o), (1, .int x1)], [.ref b], M)) rfl hS.1 hY0 (by decide) rfl rfl ?_
  refine ml_st (S' := (5, [(0, .ref o), (1, .int x1)], [.ref o, .ref b], M)) rfl rfl rfl ?_
  refine tg_int rfl hS.1 hY0 (by decide) rfl (fun u1 g2 => ?_)
  show ml _ _ _ (8, [(0, .ref o), (1, .int x1)], [.int u1, .ref b], M) _
  refine ml_blk 2 (S' := (10, [(0, .ref o), (1, .int x1)], [.int (u1 + x1), .ref b], M)) rfl ?_
  refine ml_call (a := [.ref b, .int (u1 + x1)]) (rest := []) rfl (okc_t rfl rfl rfl hS.1 hY1 (by decide)) rfl rfl (tq_u4 hS.1 hY1 (by omega)) (fun v3 M4 h5 => ?_)
  obtain ⟨⟨u6, rfl⟩, h5⟩ := h5
  rw [h5]
  show ml _ _ _ (13, [(0, .ref o), (1, .int x1)], [.int u6], M) _
  exact ml_ret rfl (rfl) (⟨⟨_, rfl⟩, rfl⟩)
set_option maxHeartbeats 2000000 in
theorem ti_isSwitch {g : xe_G} {M : mi_H} {Y : yT} {o b k da n : Nat}  (hW : WF g Y M) (hY0 : Y.1 o = some (5, [b, k])) (hY1 : Y.1 b = some (1, [da, n])) {d : Nat} (hd : 1 ≤ d) : mt (mT g) d 95 [.ref o] M (pZ M) := by
  obtain ⟨d, rfl⟩ : ∃ e, d = e + 1 := ⟨d - 1, by omega⟩
  have hS : st g Y M M := st.rf hW
  refine mt_in (b := mb_95 g) rfl rfl ?_
  show ml (mT g) d (mb_95 g).2 (0, [(0, .ref o)], [], M) _
  refine ml_st (S' := (1, [(0, .ref o)], [.ref o], M)) rfl rfl rfl ?_
  refine tg_int rfl hS.1 hY0 (by decide) rfl (fun u1 g2 => ?_)
  show ml _ _ _ (4, [(0, .ref o)], [.int u1], M) _
  refine ml_st (S' := (7, [(0, .ref o)], [.int 170, .int u1], M)) rfl rfl rfl ?_
  refine ml_if2 (S1 := (20, [], [], M)) (S2 := (10, [(0, .ref o)], [], M)) rfl rfl rfl (fun c_7 => ?_) (fun c_7 => ?_)
  · have c_7 : u1 = 170 := of_decide_eq_true c_7
    refine ml_st (S' := (21, [], [.int 1], M)) rfl rfl rfl ?_
    refine ml_st (S' := (25, [], [.int 1], M)) rfl rfl rfl ?_
    exact ml_ret rfl (r_z (Or.inr rfl)) (⟨⟨_, rfl, Or.inr rfl⟩, rfl⟩)
  · have c_7 : ¬ (u1 = 170) := of_decide_eq_false c_7
    refine ml_st (S' := (11, [(0, .ref o)], [.ref o], M)) rfl rfl rfl ?_
    refine ml_get (S' := (14, [(0, .ref o)], [.int u1], M)) rfl g2 rfl ?_
    refine ml_st (S' := (17, [(0, .ref o)], [.int 171, .int u1], M)) rfl rfl rfl ?_
    refine ml_if2 (S1 := (24, [(0, .ref o)], [], M)) (S2 := (20, [], [], M)) rfl rfl rfl (fun c_17 => ?_) (fun c_17 => ?_)
    · have c_17 : ¬ u1 = 171 := of_decide_eq_true c_17
      refine ml_st (S' := (25, [], [.int 0], M)) rfl rfl rfl ?_
      exact ml_ret rfl (r_z (Or.inl rfl)) (⟨⟨_, rfl, Or.inl rfl⟩, rfl⟩)
    · have c_17 : ¬ (¬ u1 = 171) := of_decide_eq_false c_17
      refine ml_st (S' := (21, [], [.int 1], M)) rfl rfl rfl ?_
      refine ml_st (S' := (25, [], [.int 1], M)) rfl rfl rfl ?_
      exact ml_ret rfl (r_z (Or.inr rfl)) (⟨⟨_, rfl, Or.inr rfl⟩, rfl⟩)
set_option maxHeartbeats 2000000 in
theorem ti_isJump {g : xe_G} {M : mi_H} {Y : yT} {o b k da n : Nat}  (hW : WF g Y M) (hY0 : Y.1 o = some (5, [b, k])) (hY1 : Y.1 b = some (1, [da, n])) {d : Nat} (hd : 2 ≤ d) : mt (mT g) d 89 [.ref o] M (pZ M) := by
  obtain ⟨d, rfl⟩ : ∃ e, d = e + 1 := ⟨d - 1, by omega⟩
  have hS : st g Y M M := st.rf hW
  refine mt_in (b := mb_89 g) rfl rfl ?_
  show ml (mT g) d (mb_89 g).2 (0, [(0, .ref o)], [], M) _
  refine ml_st (S' := (1, [(0, .ref o)], [.ref o], M)) rfl rfl rfl ?_
  refine tg_int rfl hS.1 hY0 (by decide) rfl (fun u1 g2 => ?_)
  show ml _ _ _ (4, [(0, .ref o)], [.int u1], M) _
  refine ml_if (S1 := (18, [], [], M)) (S2 := (7, [(0, .ref o)], [], M)) rfl rfl rfl (fun c_4 => ?_) (fun c_4 => ?_)
  · have c_4 : u1 ≤ 0 := of_decide_eq_true c_4
    refine ml_st (S' := (19, [], [.int 0], M)) rfl rfl rfl ?_
    exact ml_ret rfl (r_z (Or.inl rfl)) (⟨⟨_, rfl, Or.inl rfl⟩, rfl⟩)
  · have c_4 : ¬ (u1 ≤ 0) := of_decide_eq_false c_4
    refine ml_st (S' := (8, [(0, .ref o)], [.ref o], M)) rfl rfl rfl ?_
    refine ml_call (a := [.ref o]) (rest := []) rfl (okc_t rfl rfl rfl hS.1 hY0 (by decide)) rfl rfl (ti_isSwitch hS.1 hY0 hY1 (by omega)) (fun v3 M4 h5 => ?_)
    obtain ⟨⟨u6, rfl, z7⟩, h5⟩ := h5
    rw [h5]
    show ml _ _ _ (11, [(0, .ref o)], [.int u6], M) _
    refine ml_if (S1 := (18, [], [], M)) (S2 := (14, [(0, .ref o)], [], M)) rfl rfl rfl (fun c_11 => ?_) (fun c_11 => ?_)
    · have c_11 : ¬ u6 = 0 := of_decide_eq_true c_11
      refine ml_st (S' := (19, [], [.int 0], M)) rfl rfl rfl ?_
      exact ml_ret rfl (r_z (Or.inl rfl)) (⟨⟨_, rfl, Or.inl rfl⟩, rfl⟩)
    · have c_11 : ¬ (¬ u6 = 0) := of_decide_eq_false c_11
      refine ml_st (S' := (15, [(0, .ref o)], [.int 1], M)) rfl rfl rfl ?_
      refine ml_st (S' := (19, [], [.int 1], M)) rfl rfl rfl ?_
      exact ml_ret rfl (r_z (Or.inr rfl)) (⟨⟨_, rfl, Or.inr rfl⟩, rfl⟩)
set_option maxHeartbeats 2000000 in
theorem ti_keyOf {g : xe_G} {M : mi_H} {Y : yT} {o b k da n : Nat} {x1 : Int32}  (hW : WF g Y M) (hY0 : Y.1 o = some (5, [b, k])) (hY1 : Y.1 b = some (1, [da, n])) {d : Nat} (hd : 3 ≤ d) : mt (mT g) d 100 [.ref o, .int x1] M (pI M) := by
  obtain ⟨d, rfl⟩ : ∃ e, d = e + 1 := ⟨d - 1, by omega⟩
  have hS : st g Y M M := st.rf hW
  refine mt_in (b := mb_100 g) rfl rfl ?_
  show ml (mT g) d (mb_100 g).2 (0, [(0, .ref o), (1, .int x1)], [], M) _
  refine ml_st (S' := (1, [(0, .ref o), (1, .int x1)], [.int x1], M)) rfl rfl rfl ?_
  refine ml_if (S1 := (6, [(0, .ref o), (1, .int x1)], [], M)) (S2 := (4, [(0, .ref o), (1, .int x1)], [], M)) rfl rfl rfl (fun c_1 => ?_) (fun c_1 => ?_)
  · have c_1 : ¬ x1 = 0 := of_decide_eq_true c_1
    refine ml_st (S' := (7, [(0, .ref o), (1, .int x1)], [.ref o], M)) rfl rfl rfl ?_
    refine tg_int rfl hS.1 hY0 (by decide) rfl (fun u1 g2 => ?_)
    show ml _ _ _ (10, [(0, .ref o), (1, .int x1)], [.int u1], M) _
    refine ml_st (S' := (13, [(0, .ref o), (1, .int x1)], [.int 170, .int u1], M)) rfl rfl rfl ?_
    refine ml_if2 (S1 := (27, [(0, .ref o), (1, .int x1)], [], M)) (S2 := (16, [(0, .ref o), (1, .int x1)], [], M)) rfl rfl rfl (fun c_13 => ?_) (fun c_13 => ?_)
    · have c_13 : ¬ u1 = 170 := of_decide_eq_true c_13
      refine ml_blk 2 (S' := (29, [(0, .ref o), (1, .int x1)], [.ref o, .ref o], M)) rfl ?_
      refine tg_int rfl hS.1 hY0 (by decide) rfl (fun u3 g4 => ?_)
      show ml _ _ _ (32, [(0, .ref o), (1, .int x1)], [.int u3, .ref o], M) _
      refine ml_blk 3 (S' := (36, [(0, .ref o), (1, .int x1)], [.int (8 * x1), .int u3, .ref o], M)) rfl ?_
      refine ml_st (S' := (37, [(0, .ref o), (1, .int x1)], [.int (u3 + (8 * x1)), .ref o], M)) rfl rfl rfl ?_
      refine ml_call (a := [.ref o, .int (u3 + (8 * x1))]) (rest := []) rfl (okc_t rfl rfl rfl hS.1 hY0 (by decide)) rfl rfl (ti_s4 hS.1 hY0 hY1 (by omega)) (fun v5 M6 h7 => ?_)
      obtain ⟨⟨u8, rfl⟩, h7⟩ := h7
      rw [h7]
      show ml _ _ _ (40, [], [.int u8], M) _
      exact ml_ret rfl (rfl) (⟨⟨_, rfl⟩, rfl⟩)
    · have c_13 : ¬ (¬ u1 = 170) := of_decide_eq_false c_13
      refine ml_st (S' := (17, [(0, .ref o), (1, .int x1)], [.ref o], M)) rfl rfl rfl ?_
      refine tg_int rfl hS.1 hY0 (by decide) rfl (fun u9 g10 => ?_)
      show ml _ _ _ (20, [(0, .ref o), (1, .int x1)], [.int u9], M) _
      refine ml_blk 3 (S' := (23, [(0, .ref o), (1, .int x1)], [.int 1, .int (u9 + x1)], M)) rfl ?_
      refine ml_st (S' := (24, [(0, .ref o), (1, .int x1)], [.int ((u9 + x1) - 1)], M)) rfl rfl rfl ?_
      refine ml_st (S' := (40, [], [.int ((u9 + x1) - 1)], M)) rfl rfl rfl ?_
      exact ml_ret rfl (rfl) (⟨⟨_, rfl⟩, rfl⟩)
  · have c_1 : ¬ (¬ x1 = 0) := of_decide_eq_false c_1
    refine ml_st (S' := (5, [(0, .ref o), (1, .int x1)], [.int 0], M)) rfl rfl rfl ?_
    exact ml_ret rfl (rfl) (⟨⟨_, rfl⟩, rfl⟩)
set_option maxHeartbeats 2000000 in
theorem ti_target {g : xe_G} {M : mi_H} {Y : yT} {o b k da n : Nat} {x1 : Int32}  (hW : WF g Y M) (hY0 : Y.1 o = some (5, [b, k])) (hY1 : Y.1 b = some (1, [da, n])) {d : Nat} (hd : 3 ≤ d) : mt (mT g) d 103 [.ref o, .int x1] M (pL M) := by
  obtain ⟨d, rfl⟩ : ∃ e, d = e + 1 := ⟨d - 1, by omega⟩
  have hS : st g Y M M := st.rf hW
  refine mt_in (b := mb_103 g) rfl rfl ?_
  show ml (mT g) d (mb_103 g).2 (0, [(0, .ref o), (1, .int x1)], [], M) _
  refine ml_st (S' := (1, [(0, .ref o), (1, .int x1)], [.ref o], M)) rfl rfl rfl ?_
  refine ml_call (a := [.ref o]) (rest := []) rfl (okc_t rfl rfl rfl hS.1 hY0 (by decide)) rfl rfl (ti_isSwitch hS.1 hY0 hY1 (by omega)) (fun v1 M2 h3 => ?_)
  obtain ⟨⟨u4, rfl, z5⟩, h3⟩ := h3
  rw [h3]
  show ml _ _ _ (4, [(0, .ref o), (1, .int x1)], [.int u4], M) _
  refine ml_if (S1 := (19, [(0, .ref o), (1, .int x1)], [], M)) (S2 := (7, [(0, .ref o), (1, .int x1)], [], M)) rfl rfl rfl (fun c_4 => ?_) (fun c_4 => ?_)
  · have c_4 : ¬ u4 = 0 := of_decide_eq_true c_4
    refine ml_st (S' := (20, [(0, .ref o), (1, .int x1)], [.int x1], M)) rfl rfl rfl ?_
    refine ml_if (S1 := (39, [(0, .ref o), (1, .int x1)], [], M)) (S2 := (23, [(0, .ref o), (1, .int x1)], [], M)) rfl rfl rfl (fun c_20 => ?_) (fun c_20 => ?_)
    · have c_20 : ¬ x1 = 0 := of_decide_eq_true c_20
      refine ml_st (S' := (40, [(0, .ref o), (1, .int x1)], [.ref o], M)) rfl rfl rfl ?_
      refine tg_int rfl hS.1 hY0 (by decide) rfl (fun u6 g7 => ?_)
      show ml _ _ _ (43, [(0, .ref o), (1, .int x1)], [.int u6], M) _
      refine ml_blk 3 (S' := (46, [(0, .ref o), (1, .int x1)], [.ref o, .ref o, .long (Int32.toInt64 u6)], M)) rfl ?_
      refine tg_int rfl hS.1 hY0 (by decide) rfl (fun u8 g9 => ?_)
      show ml _ _ _ (49, [(0, .ref o), (1, .int x1)], [.int u8, .ref o, .long (Int32.toInt64 u6)], M) _
      refine ml_st (S' := (52, [(0, .ref o), (1, .int x1)], [.int 170, .int u8, .ref o, .long (Int32.toInt64 u6)], M)) rfl rfl rfl ?_
      refine ml_if2 (S1 := (69, [(0, .ref o), (1, .int x1)], [.ref o, .long (Int32.toInt64 u6)], M)) (S2 := (55, [(0, .ref o), (1, .int x1)], [.ref o, .long (Int32.toInt64 u6)], M)) rfl rfl rfl (fun c_52 => ?_) (fun c_52 => ?_)
      · have c_52 : ¬ u8 = 170 := of_decide_eq_true c_52
        refine ml_st (S' := (70, [(0, .ref o), (1, .int x1)], [.ref o, .ref o, .long (Int32.toInt64 u6)], M)) rfl rfl rfl ?_
        refine tg_int rfl hS.1 hY0 (by decide) rfl (fun u10 g11 => ?_)
        show ml _ _ _ (73, [(0, .ref o), (1, .int x1)], [.int u10, .ref o, .long (Int32.toInt64 u6)], M) _
        refine ml_blk 3 (S' := (77, [(0, .ref o), (1, .int x1)], [.int 8, .int (u10 + 4), .ref o, .long (Int32.toInt64 u6)], M)) rfl ?_
        refine ml_blk 3 (S' := (80, [], [.int ((u10 + 4) + (8 * x1)), .ref o, .long (Int32.toInt64 u6)], M)) rfl ?_
        refine ml_call (a := [.ref o, .int ((u10 + 4) + (8 * x1))]) (rest := [.long (Int32.toInt64 u6)]) rfl (okc_t rfl rfl rfl hS.1 hY0 (by decide)) rfl rfl (ti_s4 hS.1 hY0 hY1 (by omega)) (fun v12 M13 h14 => ?_)
        obtain ⟨⟨u15, rfl⟩, h14⟩ := h14
        rw [h14]
        show ml _ _ _ (83, [], [.int u15, .long (Int32.toInt64 u6)], M) _
        refine ml_blk 2 (S' := (85, [], [.long ((Int32.toInt64 u6) + (Int32.toInt64 u15))], M)) rfl ?_
        exact ml_ret rfl (rfl) (⟨⟨_, rfl⟩, rfl⟩)
      · have c_52 : ¬ (¬ u8 = 170) := of_decide_eq_false c_52
        refine ml_st (S' := (56, [(0, .ref o), (1, .int x1)], [.ref o, .ref o, .long (Int32.toInt64 u6)], M)) rfl rfl rfl ?_
        refine tg_int rfl hS.1 hY0 (by decide) rfl (fun u16 g17 => ?_)
        show ml _ _ _ (59, [(0, .ref o), (1, .int x1)], [.int u16, .ref o, .long (Int32.toInt64 u6)], M) _
        refine ml_blk 3 (S' := (63, [(0, .ref o), (1, .int x1)], [.int 4, .int (u16 + 8), .ref o, .long (Int32.toInt64 u6)], M)) rfl ?_
        refine ml_blk 3 (S' := (66, [(0, .ref o), (1, .int x1)], [.int ((u16 + 8) + (4 * x1)), .ref o, .long (Int32.toInt64 u6)], M)) rfl ?_
        refine ml_st (S' := (80, [], [.int ((u16 + 8) + (4 * x1)), .ref o, .long (Int32.toInt64 u6)], M)) rfl rfl rfl ?_
        refine ml_call (a := [.ref o, .int ((u16 + 8) + (4 * x1))]) (rest := [.long (Int32.toInt64 u6)]) rfl (okc_t rfl rfl rfl hS.1 hY0 (by decide)) rfl rfl (ti_s4 hS.1 hY0 hY1 (by omega)) (fun v18 M19 h20 => ?_)
        obtain ⟨⟨u21, rfl⟩, h20⟩ := h20
        rw [h20]
        show ml _ _ _ (83, [], [.int u21, .long (Int32.toInt64 u6)], M) _
        refine ml_blk 2 (S' := (85, [], [.long ((Int32.toInt64 u6) + (Int32.toInt64 u21))], M)) rfl ?_
        exact ml_ret rfl (rfl) (⟨⟨_, rfl⟩, rfl⟩)
    · have c_20 : ¬ (¬ x1 = 0) := of_decide_eq_false c_20
      refine ml_st (S' := (24, [(0, .ref o), (1, .int x1)], [.ref o], M)) rfl rfl rfl ?_
      refine tg_int rfl hS.1 hY0 (by decide) rfl (fun u22 g23 => ?_)
      show ml _ _ _ (27, [(0, .ref o), (1, .int x1)], [.int u22], M) _
      refine ml_blk 3 (S' := (30, [(0, .ref o), (1, .int x1)], [.ref o, .ref o, .long (Int32.toInt64 u22)], M)) rfl ?_
      refine tg_int rfl hS.1 hY0 (by decide) rfl (fun u24 g25 => ?_)
      show ml _ _ _ (33, [(0, .ref o), (1, .int x1)], [.int u24, .ref o, .long (Int32.toInt64 u22)], M) _
      refine ml_call (a := [.ref o, .int u24]) (rest := [.long (Int32.toInt64 u22)]) rfl (okc_t rfl rfl rfl hS.1 hY0 (by decide)) rfl rfl (ti_s4 hS.1 hY0 hY1 (by omega)) (fun v26 M27 h28 => ?_)
      obtain ⟨⟨u29, rfl⟩, h28⟩ := h28
      rw [h28]
      show ml _ _ _ (36, [(0, .ref o), (1, .int x1)], [.int u29, .long (Int32.toInt64 u22)], M) _
      refine ml_blk 2 (S' := (38, [(0, .ref o), (1, .int x1)], [.long ((Int32.toInt64 u22) + (Int32.toInt64 u29))], M)) rfl ?_
      exact ml_ret rfl (rfl) (⟨⟨_, rfl⟩, rfl⟩)
  · have c_4 : ¬ (¬ u4 = 0) := of_decide_eq_false c_4
    refine ml_st (S' := (8, [(0, .ref o), (1, .int x1)], [.ref o], M)) rfl rfl rfl ?_
    refine tg_int rfl hS.1 hY0 (by decide) rfl (fun u30 g31 => ?_)
    show ml _ _ _ (11, [(0, .ref o), (1, .int x1)], [.int u30], M) _
    refine ml_blk 2 (S' := (13, [(0, .ref o), (1, .int x1)], [.ref o, .long (Int32.toInt64 u30)], M)) rfl ?_
    refine tg_int rfl hS.1 hY0 (by decide) rfl (fun u32 g33 => ?_)
    show ml _ _ _ (16, [(0, .ref o), (1, .int x1)], [.int u32, .long (Int32.toInt64 u30)], M) _
    refine ml_blk 2 (S' := (18, [(0, .ref o), (1, .int x1)], [.long ((Int32.toInt64 u30) + (Int32.toInt64 u32))], M)) rfl ?_
    exact ml_ret rfl (rfl) (⟨⟨_, rfl⟩, rfl⟩)
set_option maxHeartbeats 2000000 in
theorem ti_isLocalOpcode {g : xe_G} {M : mi_H} {Y : yT} {x1 : Int32}  (hW : WF g Y M) {d : Nat} (hd : 1 ≤ d) : mt (mT g) d 91 [.int x1] M (pZ M) := by
  obtain ⟨d, rfl⟩ : ∃ e, d = e + 1 := ⟨d - 1, by omega⟩
  have hS : st g Y M M := st.rf hW
  refine mt_in (b := mb_91 g) rfl rfl ?_
  show ml (mT g) d (mb_91 g).2 (0, [(0, .int x1)], [], M) _
  refine ml_blk 2 (S' := (3, [(0, .int x1)], [.int 21, .int x1], M)) rfl ?_
  refine ml_if2 (S1 := (12, [(0, .int x1)], [], M)) (S2 := (6, [(0, .int x1)], [], M)) rfl rfl rfl (fun c_3 => ?_) (fun c_3 => ?_)
  · have c_3 : x1 < 21 := of_decide_eq_true c_3
    refine ml_blk 2 (S' := (15, [(0, .int x1)], [.int 54, .int x1], M)) rfl ?_
    refine ml_if2 (S1 := (24, [(0, .int x1)], [], M)) (S2 := (18, [(0, .int x1)], [], M)) rfl rfl rfl (fun c_15 => ?_) (fun c_15 => ?_)
    · have c_15 : x1 < 54 := of_decide_eq_true c_15
      refine ml_blk 2 (S' := (28, [(0, .int x1)], [.int 169, .int x1], M)) rfl ?_
      refine ml_if2 (S1 := (35, [(0, .int x1)], [], M)) (S2 := (31, [], [], M)) rfl rfl rfl (fun c_28 => ?_) (fun c_28 => ?_)
      · have c_28 : ¬ x1 = 169 := of_decide_eq_true c_28
        refine ml_st (S' := (36, [], [.int 0], M)) rfl rfl rfl ?_
        exact ml_ret rfl (r_z (Or.inl rfl)) (⟨⟨_, rfl, Or.inl rfl⟩, rfl⟩)
      · have c_28 : ¬ (¬ x1 = 169) := of_decide_eq_false c_28
        refine ml_st (S' := (32, [], [.int 1], M)) rfl rfl rfl ?_
        refine ml_st (S' := (36, [], [.int 1], M)) rfl rfl rfl ?_
        exact ml_ret rfl (r_z (Or.inr rfl)) (⟨⟨_, rfl, Or.inr rfl⟩, rfl⟩)
    · have c_15 : ¬ (x1 < 54) := of_decide_eq_false c_15
      refine ml_blk 2 (S' := (21, [(0, .int x1)], [.int 58, .int x1], M)) rfl ?_
      refine ml_if2 (S1 := (31, [], [], M)) (S2 := (24, [(0, .int x1)], [], M)) rfl rfl rfl (fun c_21 => ?_) (fun c_21 => ?_)
      · have c_21 : x1 ≤ 58 := of_decide_eq_true c_21
        refine ml_st (S' := (32, [], [.int 1], M)) rfl rfl rfl ?_
        refine ml_st (S' := (36, [], [.int 1], M)) rfl rfl rfl ?_
        exact ml_ret rfl (r_z (Or.inr rfl)) (⟨⟨_, rfl, Or.inr rfl⟩, rfl⟩)
      · have c_21 : ¬ (x1 ≤ 58) := of_decide_eq_false c_21
        refine ml_blk 2 (S' := (28, [(0, .int x1)], [.int 169, .int x1], M)) rfl ?_
        refine ml_if2 (S1 := (35, [(0, .int x1)], [], M)) (S2 := (31, [], [], M)) rfl rfl rfl (fun c_28 => ?_) (fun c_28 => ?_)
        · have c_28 : ¬ x1 = 169 := of_decide_eq_true c_28
          refine ml_st (S' := (36, [], [.int 0], M)) rfl rfl rfl ?_
          exact ml_ret rfl (r_z (Or.inl rfl)) (⟨⟨_, rfl, Or.inl rfl⟩, rfl⟩)
        · have c_28 : ¬ (¬ x1 = 169) := of_decide_eq_false c_28
          refine ml_st (S' := (32, [], [.int 1], M)) rfl rfl rfl ?_
          refine ml_st (S' := (36, [], [.int 1], M)) rfl rfl rfl ?_
          exact ml_ret rfl (r_z (Or.inr rfl)) (⟨⟨_, rfl, Or.inr rfl⟩, rfl⟩)
  · have c_3 : ¬ (x1 < 21) := of_decide_eq_false c_3
    refine ml_blk 2 (S' := (9, [(0, .int x1)], [.int 25, .int x1], M)) rfl ?_
    refine ml_if2 (S1 := (31, [], [], M)) (S2 := (12, [(0, .int x1)], [], M)) rfl rfl rfl (fun c_9 => ?_) (fun c_9 => ?_)
    · have c_9 : x1 ≤ 25 := of_decide_eq_true c_9
      refine ml_st (S' := (32, [], [.int 1], M)) rfl rfl rfl ?_
      refine ml_st (S' := (36, [], [.int 1], M)) rfl rfl rfl ?_
      exact ml_ret rfl (r_z (Or.inr rfl)) (⟨⟨_, rfl, Or.inr rfl⟩, rfl⟩)
    · have c_9 : ¬ (x1 ≤ 25) := of_decide_eq_false c_9
      refine ml_blk 2 (S' := (15, [(0, .int x1)], [.int 54, .int x1], M)) rfl ?_
      refine ml_if2 (S1 := (24, [(0, .int x1)], [], M)) (S2 := (18, [(0, .int x1)], [], M)) rfl rfl rfl (fun c_15 => ?_) (fun c_15 => ?_)
      · have c_15 : x1 < 54 := of_decide_eq_true c_15
        refine ml_blk 2 (S' := (28, [(0, .int x1)], [.int 169, .int x1], M)) rfl ?_
        refine ml_if2 (S1 := (35, [(0, .int x1)], [], M)) (S2 := (31, [], [], M)) rfl rfl rfl (fun c_28 => ?_) (fun c_28 => ?_)
        · have c_28 : ¬ x1 = 169 := of_decide_eq_true c_28
          refine ml_st (S' := (36, [], [.int 0], M)) rfl rfl rfl ?_
          exact ml_ret rfl (r_z (Or.inl rfl)) (⟨⟨_, rfl, Or.inl rfl⟩, rfl⟩)
        · have c_28 : ¬ (¬ x1 = 169) := of_decide_eq_false c_28
          refine ml_st (S' := (32, [], [.int 1], M)) rfl rfl rfl ?_
          refine ml_st (S' := (36, [], [.int 1], M)) rfl rfl rfl ?_
          exact ml_ret rfl (r_z (Or.inr rfl)) (⟨⟨_, rfl, Or.inr rfl⟩, rfl⟩)
      · have c_15 : ¬ (x1 < 54) := of_decide_eq_false c_15
        refine ml_blk 2 (S' := (21, [(0, .int x1)], [.int 58, .int x1], M)) rfl ?_
        refine ml_if2 (S1 := (31, [], [], M)) (S2 := (24, [(0, .int x1)], [], M)) rfl rfl rfl (fun c_21 => ?_) (fun c_21 => ?_)
        · have c_21 : x1 ≤ 58 := of_decide_eq_true c_21
          refine ml_st (S' := (32, [], [.int 1], M)) rfl rfl rfl ?_
          refine ml_st (S' := (36, [], [.int 1], M)) rfl rfl rfl ?_
          exact ml_ret rfl (r_z (Or.inr rfl)) (⟨⟨_, rfl, Or.inr rfl⟩, rfl⟩)
        · have c_21 : ¬ (x1 ≤ 58) := of_decide_eq_false c_21
          refine ml_blk 2 (S' := (28, [(0, .int x1)], [.int 169, .int x1], M)) rfl ?_
          refine ml_if2 (S1 := (35, [(0, .int x1)], [], M)) (S2 := (31, [], [], M)) rfl rfl rfl (fun c_28 => ?_) (fun c_28 => ?_)
          · have c_28 : ¬ x1 = 169 := of_decide_eq_true c_28
            refine ml_st (S' := (36, [], [.int 0], M)) rfl rfl rfl ?_
            exact ml_ret rfl (r_z (Or.inl rfl)) (⟨⟨_, rfl, Or.inl rfl⟩, rfl⟩)
          · have c_28 : ¬ (¬ x1 = 169) := of_decide_eq_false c_28
            refine ml_st (S' := (32, [], [.int 1], M)) rfl rfl rfl ?_
            refine ml_st (S' := (36, [], [.int 1], M)) rfl rfl rfl ?_
            exact ml_ret rfl (r_z (Or.inr rfl)) (⟨⟨_, rfl, Or.inr rfl⟩, rfl⟩)
def pS (M : mi_H) : Option Value → mi_H → Prop := fun v M' => (∃ x : Int32, v = some (.int x) ∧ 1 ≤ x.toInt) ∧ M' = M
set_option maxHeartbeats 2000000 in
theorem ti_sizeOf {g : xe_G} {M : mi_H} {Y : yT} {x1 : Int32}  (hW : WF g Y M) {d : Nat} (hd : 2 ≤ d) : mt (mT g) d 102 [.int x1] M (pS M) := by
  obtain ⟨d, rfl⟩ : ∃ e, d = e + 1 := ⟨d - 1, by omega⟩
  have hS : st g Y M M := st.rf hW
  refine mt_in (b := mb_102 g) rfl rfl ?_
  show ml (mT g) d (mb_102 g).2 (0, [(0, .int x1)], [], M) _
  refine ml_blk 2 (S' := (4, [(0, .int x1)], [.int 153, .int x1], M)) rfl ?_
  have J_14 : ml (mT g) d (mb_102 g).2 (14, [(0, .int x1)], [], M) (pS M) := by
    refine ml_blk 2 (S' := (18, [(0, .int x1)], [.int 178, .int x1], M)) rfl ?_
    have J_30 : ml (mT g) d (mb_102 g).2 (30, [(0, .int x1)], [], M) (pS M) := by
      refine ml_st (S' := (31, [(0, .int x1)], [.int x1], M)) rfl rfl rfl ?_
      refine ml_call (a := [.int x1]) (rest := []) rfl (rfl) rfl rfl (ti_isLocalOpcode hS.1  (by omega)) (fun v1 M2 h3 => ?_)
      obtain ⟨⟨u4, rfl, z5⟩, h3⟩ := h3
      rw [h3]
      show ml _ _ _ (34, [(0, .int x1)], [.int u4], M) _
      refine ml_if (S1 := (39, [(0, .int x1)], [], M)) (S2 := (37, [(0, .int x1)], [], M)) rfl rfl rfl (fun c_34 => ?_) (fun c_34 => ?_)
      · have c_34 : u4 = 0 := of_decide_eq_true c_34
        refine ml_st (S' := (40, [(0, .int x1)], [.int x1], M)) rfl rfl rfl ?_
        refine ml_sw rfl (fun t_40 ht_40 => ?_)
        have kt_40 := ht_40
        have ht_40 : t_40 ∈ [196, 198, 200, 202, 204] := mi_sw_sub ht_40 (by decide)
        simp only [List.mem_cons, List.not_mem_nil, or_false] at ht_40
        rcases ht_40 with rfl | rfl | rfl | rfl | rfl
        · show ml _ _ _ (196, [(0, .int x1)], [], M) _
          refine ml_st (S' := (197, [(0, .int x1)], [.int 2], M)) rfl rfl rfl ?_
          exact ml_ret rfl (rfl) (⟨⟨_, rfl, by decide⟩, rfl⟩)
        · show ml _ _ _ (198, [(0, .int x1)], [], M) _
          refine ml_st (S' := (199, [(0, .int x1)], [.int 3], M)) rfl rfl rfl ?_
          exact ml_ret rfl (rfl) (⟨⟨_, rfl, by decide⟩, rfl⟩)
        · show ml _ _ _ (200, [(0, .int x1)], [], M) _
          refine ml_st (S' := (201, [(0, .int x1)], [.int 4], M)) rfl rfl rfl ?_
          exact ml_ret rfl (rfl) (⟨⟨_, rfl, by decide⟩, rfl⟩)
        · show ml _ _ _ (202, [(0, .int x1)], [], M) _
          refine ml_st (S' := (203, [(0, .int x1)], [.int 5], M)) rfl rfl rfl ?_
          exact ml_ret rfl (rfl) (⟨⟨_, rfl, by decide⟩, rfl⟩)
        · show ml _ _ _ (204, [(0, .int x1)], [], M) _
          refine ml_st (S' := (205, [(0, .int x1)], [.int 1], M)) rfl rfl rfl ?_
          exact ml_ret rfl (rfl) (⟨⟨_, rfl, by decide⟩, rfl⟩)
      · have c_34 : ¬ (u4 = 0) := of_decide_eq_false c_34
        refine ml_st (S' := (38, [(0, .int x1)], [.int 2], M)) rfl rfl rfl ?_
        exact ml_ret rfl (rfl) (⟨⟨_, rfl, by decide⟩, rfl⟩)
    refine ml_if2 (S1 := (30, [(0, .int x1)], [], M)) (S2 := (21, [(0, .int x1)], [], M)) rfl rfl rfl (fun c_18 => ?_) (fun c_18 => ?_)
    · have c_18 : x1 < 178 := of_decide_eq_true c_18
      exact J_30 
    · have c_18 : ¬ (x1 < 178) := of_decide_eq_false c_18
      refine ml_blk 2 (S' := (25, [(0, .int x1)], [.int 184, .int x1], M)) rfl ?_
      refine ml_if2 (S1 := (30, [(0, .int x1)], [], M)) (S2 := (28, [], [], M)) rfl rfl rfl (fun c_25 => ?_) (fun c_25 => ?_)
      · have c_25 : 184 < x1 := of_decide_eq_true c_25
        exact J_30 
      · have c_25 : ¬ (184 < x1) := of_decide_eq_false c_25
        refine ml_st (S' := (29, [], [.int 3], M)) rfl rfl rfl ?_
        exact ml_ret rfl (rfl) (⟨⟨_, rfl, by decide⟩, rfl⟩)
  refine ml_if2 (S1 := (14, [(0, .int x1)], [], M)) (S2 := (7, [(0, .int x1)], [], M)) rfl rfl rfl (fun c_4 => ?_) (fun c_4 => ?_)
  · have c_4 : x1 < 153 := of_decide_eq_true c_4
    exact J_14 
  · have c_4 : ¬ (x1 < 153) := of_decide_eq_false c_4
    refine ml_blk 2 (S' := (11, [(0, .int x1)], [.int 168, .int x1], M)) rfl ?_
    refine ml_if2 (S1 := (28, [], [], M)) (S2 := (14, [(0, .int x1)], [], M)) rfl rfl rfl (fun c_11 => ?_) (fun c_11 => ?_)
    · have c_11 : x1 ≤ 168 := of_decide_eq_true c_11
      refine ml_st (S' := (29, [], [.int 3], M)) rfl rfl rfl ?_
      exact ml_ret rfl (rfl) (⟨⟨_, rfl, by decide⟩, rfl⟩)
    · have c_11 : ¬ (x1 ≤ 168) := of_decide_eq_false c_11
      exact J_14 
set_option maxHeartbeats 2000000 in
theorem ti_isLocalTaken {g : xe_G} {M : mi_H} {Y : yT} {o b k da n : Nat} {x1 : Int32}  (hW : WF g Y M) (hY0 : Y.1 o = some (5, [b, k])) (hY1 : Y.1 b = some (1, [da, n])) {d : Nat} (hd : 1 ≤ d) : mt (mT g) d 92 [.ref o, .int x1] M (kZ g Y o M) := by
  obtain ⟨d, rfl⟩ : ∃ e, d = e + 1 := ⟨d - 1, by omega⟩
  have hS : sk g Y o M M := sk.rf hW
  refine mt_in (b := mb_92 g) rfl rfl ?_
  show ml (mT g) d (mb_92 g).2 (0, [(0, .ref o), (1, .int x1)], [], M) _
  refine ml_st (S' := (1, [(0, .ref o), (1, .int x1)], [.ref o], M)) rfl rfl rfl ?_
  refine tg_int rfl hS.1.1.1 hY0 (by decide) rfl (fun u1 g2 => ?_)
  show ml _ _ _ (4, [(0, .ref o), (1, .int x1)], [.int u1], M) _
  refine ml_st (S' := (6, [(0, .ref o), (1, .int x1)], [.int 22, .int u1], M)) rfl rfl rfl ?_
  have J_36 : ml (mT g) d (mb_92 g).2 (36, [(0, .ref o), (1, .int x1)], [], M) (kZ g Y o M) := by
    refine ml_st (S' := (37, [(0, .ref o), (1, .int x1)], [.int 1], M)) rfl rfl rfl ?_
    refine ml_st (S' := (41, [(0, .ref o), (1, .int x1)], [.int 1], M)) rfl rfl rfl ?_
    refine ml_st (S' := (42, [(2, .int 1), (0, .ref o), (1, .int x1)], [], M)) rfl rfl rfl ?_
    refine ml_blk 2 (S' := (44, [(2, .int 1), (0, .ref o), (1, .int x1)], [.int 1, .ref o], M)) rfl ?_
    refine ml_if (S1 := (51, [(2, .int 1), (0, .ref o), (1, .int x1)], [.ref o], M)) (S2 := (47, [(2, .int 1), (0, .ref o), (1, .int x1)], [.ref o], M)) rfl rfl rfl (fun c_44 => ?_) (fun c_44 => ?_)
    · have c_44 : 1 = 0 := of_decide_eq_true c_44
      refine ml_st (S' := (52, [(0, .ref o), (1, .int x1)], [.int 1, .ref o], M)) rfl rfl rfl ?_
      refine tp_put rfl hS.1.1 hY0 (by decide) rfl (⟨_, rfl⟩) rfl rfl (fun M3 hS4 f5 => ?_)
      have hS6 := hS.put hS4 f5 rfl
      show ml _ _ _ (55, [(0, .ref o), (1, .int x1)], [], M3) _
      refine ml_blk 2 (S' := (57, [(0, .ref o), (1, .int x1)], [.int x1, .ref o], M3)) rfl ?_
      refine tp_put rfl hS6.1.1 hY0 (by decide) rfl (⟨_, rfl⟩) rfl rfl (fun M7 hS8 f9 => ?_)
      have hS10 := hS6.put hS8 f9 rfl
      show ml _ _ _ (60, [(0, .ref o), (1, .int x1)], [], M7) _
      refine ml_st (S' := (61, [(0, .ref o), (1, .int x1)], [.int 1], M7)) rfl rfl rfl ?_
      exact ml_ret rfl (r_z (Or.inr rfl)) (⟨⟨_, rfl, Or.inr rfl⟩, hS10⟩)
    · have c_44 : ¬ (1 = 0) := of_decide_eq_false c_44
      refine ml_st (S' := (48, [(2, .int 1), (0, .ref o), (1, .int x1)], [.int 2, .ref o], M)) rfl rfl rfl ?_
      refine ml_st (S' := (52, [(0, .ref o), (1, .int x1)], [.int 2, .ref o], M)) rfl rfl rfl ?_
      refine tp_put rfl hS.1.1 hY0 (by decide) rfl (⟨_, rfl⟩) rfl rfl (fun M11 hS12 f13 => ?_)
      have hS14 := hS.put hS12 f13 rfl
      show ml _ _ _ (55, [(0, .ref o), (1, .int x1)], [], M11) _
      refine ml_blk 2 (S' := (57, [(0, .ref o), (1, .int x1)], [.int x1, .ref o], M11)) rfl ?_
      refine tp_put rfl hS14.1.1 hY0 (by decide) rfl (⟨_, rfl⟩) rfl rfl (fun M15 hS16 f17 => ?_)
      have hS18 := hS14.put hS16 f17 rfl
      show ml _ _ _ (60, [(0, .ref o), (1, .int x1)], [], M15) _
      refine ml_st (S' := (61, [(0, .ref o), (1, .int x1)], [.int 1], M15)) rfl rfl rfl ?_
      exact ml_ret rfl (r_z (Or.inr rfl)) (⟨⟨_, rfl, Or.inr rfl⟩, hS18⟩)
  refine ml_if2 (S1 := (36, [(0, .ref o), (1, .int x1)], [], M)) (S2 := (9, [(0, .ref o), (1, .int x1)], [], M)) rfl rfl rfl (fun c_6 => ?_) (fun c_6 => ?_)
  · have c_6 : u1 = 22 := of_decide_eq_true c_6
    exact J_36 
  · have c_6 : ¬ (u1 = 22) := of_decide_eq_false c_6
    refine ml_st (S' := (10, [(0, .ref o), (1, .int x1)], [.ref o], M)) rfl rfl rfl ?_
    refine ml_get (S' := (13, [(0, .ref o), (1, .int x1)], [.int u1], M)) rfl g2 rfl ?_
    refine ml_st (S' := (15, [(0, .ref o), (1, .int x1)], [.int 24, .int u1], M)) rfl rfl rfl ?_
    refine ml_if2 (S1 := (36, [(0, .ref o), (1, .int x1)], [], M)) (S2 := (18, [(0, .ref o), (1, .int x1)], [], M)) rfl rfl rfl (fun c_15 => ?_) (fun c_15 => ?_)
    · have c_15 : u1 = 24 := of_decide_eq_true c_15
      exact J_36 
    · have c_15 : ¬ (u1 = 24) := of_decide_eq_false c_15
      refine ml_st (S' := (19, [(0, .ref o), (1, .int x1)], [.ref o], M)) rfl rfl rfl ?_
      refine ml_get (S' := (22, [(0, .ref o), (1, .int x1)], [.int u1], M)) rfl g2 rfl ?_
      refine ml_st (S' := (24, [(0, .ref o), (1, .int x1)], [.int 55, .int u1], M)) rfl rfl rfl ?_
      refine ml_if2 (S1 := (36, [(0, .ref o), (1, .int x1)], [], M)) (S2 := (27, [(0, .ref o), (1, .int x1)], [], M)) rfl rfl rfl (fun c_24 => ?_) (fun c_24 => ?_)
      · have c_24 : u1 = 55 := of_decide_eq_true c_24
        exact J_36 
      · have c_24 : ¬ (u1 = 55) := of_decide_eq_false c_24
        refine ml_st (S' := (28, [(0, .ref o), (1, .int x1)], [.ref o], M)) rfl rfl rfl ?_
        refine ml_get (S' := (31, [(0, .ref o), (1, .int x1)], [.int u1], M)) rfl g2 rfl ?_
        refine ml_st (S' := (33, [(0, .ref o), (1, .int x1)], [.int 57, .int u1], M)) rfl rfl rfl ?_
        refine ml_if2 (S1 := (40, [(0, .ref o), (1, .int x1)], [], M)) (S2 := (36, [(0, .ref o), (1, .int x1)], [], M)) rfl rfl rfl (fun c_33 => ?_) (fun c_33 => ?_)
        · have c_33 : ¬ u1 = 57 := of_decide_eq_true c_33
          refine ml_st (S' := (41, [(0, .ref o), (1, .int x1)], [.int 0], M)) rfl rfl rfl ?_
          refine ml_st (S' := (42, [(2, .int 0), (0, .ref o), (1, .int x1)], [], M)) rfl rfl rfl ?_
          refine ml_blk 2 (S' := (44, [(2, .int 0), (0, .ref o), (1, .int x1)], [.int 0, .ref o], M)) rfl ?_
          refine ml_if (S1 := (51, [(2, .int 0), (0, .ref o), (1, .int x1)], [.ref o], M)) (S2 := (47, [(2, .int 0), (0, .ref o), (1, .int x1)], [.ref o], M)) rfl rfl rfl (fun c_44 => ?_) (fun c_44 => ?_)
          · have c_44 : 0 = 0 := of_decide_eq_true c_44
            refine ml_st (S' := (52, [(0, .ref o), (1, .int x1)], [.int 1, .ref o], M)) rfl rfl rfl ?_
            refine tp_put rfl hS.1.1 hY0 (by decide) rfl (⟨_, rfl⟩) rfl rfl (fun M19 hS20 f21 => ?_)
            have hS22 := hS.put hS20 f21 rfl
            show ml _ _ _ (55, [(0, .ref o), (1, .int x1)], [], M19) _
            refine ml_blk 2 (S' := (57, [(0, .ref o), (1, .int x1)], [.int x1, .ref o], M19)) rfl ?_
            refine tp_put rfl hS22.1.1 hY0 (by decide) rfl (⟨_, rfl⟩) rfl rfl (fun M23 hS24 f25 => ?_)
            have hS26 := hS22.put hS24 f25 rfl
            show ml _ _ _ (60, [(0, .ref o), (1, .int x1)], [], M23) _
            refine ml_st (S' := (61, [(0, .ref o), (1, .int x1)], [.int 1], M23)) rfl rfl rfl ?_
            exact ml_ret rfl (r_z (Or.inr rfl)) (⟨⟨_, rfl, Or.inr rfl⟩, hS26⟩)
          · have c_44 : ¬ (0 = 0) := of_decide_eq_false c_44
            refine ml_st (S' := (48, [(2, .int 0), (0, .ref o), (1, .int x1)], [.int 2, .ref o], M)) rfl rfl rfl ?_
            refine ml_st (S' := (52, [(0, .ref o), (1, .int x1)], [.int 2, .ref o], M)) rfl rfl rfl ?_
            refine tp_put rfl hS.1.1 hY0 (by decide) rfl (⟨_, rfl⟩) rfl rfl (fun M27 hS28 f29 => ?_)
            have hS30 := hS.put hS28 f29 rfl
            show ml _ _ _ (55, [(0, .ref o), (1, .int x1)], [], M27) _
            refine ml_blk 2 (S' := (57, [(0, .ref o), (1, .int x1)], [.int x1, .ref o], M27)) rfl ?_
            refine tp_put rfl hS30.1.1 hY0 (by decide) rfl (⟨_, rfl⟩) rfl rfl (fun M31 hS32 f33 => ?_)
            have hS34 := hS30.put hS32 f33 rfl
            show ml _ _ _ (60, [(0, .ref o), (1, .int x1)], [], M31) _
            refine ml_st (S' := (61, [(0, .ref o), (1, .int x1)], [.int 1], M31)) rfl rfl rfl ?_
            exact ml_ret rfl (r_z (Or.inr rfl)) (⟨⟨_, rfl, Or.inr rfl⟩, hS34⟩)
        · have c_33 : ¬ (¬ u1 = 57) := of_decide_eq_false c_33
          exact J_36 
set_option maxHeartbeats 2000000 in
theorem ti_isShortLocalTaken {g : xe_G} {M : mi_H} {Y : yT} {o b k da n : Nat} {x1 x2 : Int32}  (hW : WF g Y M) (hY0 : Y.1 o = some (5, [b, k])) (hY1 : Y.1 b = some (1, [da, n])) {d : Nat} (hd : 2 ≤ d) : mt (mT g) d 94 [.ref o, .int x1, .int x2] M (kZ g Y o M) := by
  obtain ⟨d, rfl⟩ : ∃ e, d = e + 1 := ⟨d - 1, by omega⟩
  have hS : sk g Y o M M := sk.rf hW
  refine mt_in (b := mb_94 g) rfl rfl ?_
  show ml (mT g) d (mb_94 g).2 (0, [(0, .ref o), (1, .int x1), (2, .int x2)], [], M) _
  refine ml_blk 3 (S' := (3, [(0, .ref o), (1, .int x1), (2, .int x2)], [.int x1, .int x2, .ref o], M)) rfl ?_
  refine ml_st (S' := (4, [(0, .ref o), (1, .int x1), (2, .int x2)], [.int 4, .int x1, .int x2, .ref o], M)) rfl rfl rfl ?_
  refine ml_blk 2 (S' := (6, [(0, .ref o), (1, .int x1), (2, .int x2)], [.int (x2 + (x1 / 4)), .ref o], M)) rfl ?_
  refine tp_put rfl hS.1.1 hY0 (by decide) rfl (⟨_, rfl⟩) rfl rfl (fun M1 hS2 f3 => ?_)
  have hS4 := hS.put hS2 f3 rfl
  show ml _ _ _ (9, [(0, .ref o), (1, .int x1), (2, .int x2)], [], M1) _
  refine ml_blk 3 (S' := (12, [(0, .ref o), (1, .int x1), (2, .int x2)], [.int 4, .int x1, .ref o], M1)) rfl ?_
  refine ml_st (S' := (13, [(0, .ref o), (1, .int x1), (2, .int x2)], [.int (x1 - x1 / 4 * 4), .ref o], M1)) rfl rfl rfl ?_
  refine ml_call (a := [.ref o, .int (x1 - x1 / 4 * 4)]) (rest := []) rfl (okc_t rfl rfl rfl hS4.1.1.1 hY0 (by decide)) rfl rfl (ti_isLocalTaken hS4.1.1.1 hY0 hY1 (by omega)) (fun v5 M6 h7 => ?_)
  obtain ⟨⟨u8, rfl, z9⟩, h7⟩ := h7
  have hS10 := hS4.tr h7
  show ml _ _ _ (16, [(0, .ref o), (1, .int x1), (2, .int x2)], [.int u8], M6) _
  exact ml_ret rfl (r_z (z9)) (⟨⟨_, rfl, z9⟩, hS10⟩)
set_option maxHeartbeats 2000000 in
theorem ti_isJumpTaken {g : xe_G} {M : mi_H} {Y : yT} {o b k da n : Nat} {x1 x2 : Int32}  (hW : WF g Y M) (hY0 : Y.1 o = some (5, [b, k])) (hY1 : Y.1 b = some (1, [da, n])) {d : Nat} (hd : 1 ≤ d) : mt (mT g) d 90 [.ref o, .int x1, .int x2] M (kZ g Y o M) := by
  obtain ⟨d, rfl⟩ : ∃ e, d = e + 1 := ⟨d - 1, by omega⟩
  have hS : sk g Y o M M := sk.rf hW
  refine mt_in (b := mb_90 g) rfl rfl ?_
  show ml (mT g) d (mb_90 g).2 (0, [(0, .ref o), (1, .int x1), (2, .int x2)], [], M) _
  refine ml_blk 2 (S' := (2, [(0, .ref o), (1, .int x1), (2, .int x2)], [.int x2, .ref o], M)) rfl ?_
  refine tp_put rfl hS.1.1 hY0 (by decide) rfl (⟨_, rfl⟩) rfl rfl (fun M1 hS2 f3 => ?_)
  have hS4 := hS.put hS2 f3 rfl
  show ml _ _ _ (5, [(0, .ref o), (1, .int x1), (2, .int x2)], [], M1) _
  refine ml_blk 2 (S' := (7, [(0, .ref o), (1, .int x1), (2, .int x2)], [.int x1, .ref o], M1)) rfl ?_
  refine tp_put rfl hS4.1.1 hY0 (by decide) rfl (⟨_, rfl⟩) rfl rfl (fun M5 hS6 f7 => ?_)
  have hS8 := hS4.put hS6 f7 rfl
  show ml _ _ _ (10, [(0, .ref o), (1, .int x1), (2, .int x2)], [], M5) _
  refine ml_blk 2 (S' := (12, [(0, .ref o), (1, .int x1), (2, .int x2)], [.int 1, .ref o], M5)) rfl ?_
  refine tp_put rfl hS8.1.1 hY0 (by decide) rfl (⟨_, rfl⟩) rfl rfl (fun M9 hS10 f11 => ?_)
  have hS12 := hS8.put hS10 f11 rfl
  show ml _ _ _ (15, [(0, .ref o), (1, .int x1), (2, .int x2)], [], M9) _
  refine ml_st (S' := (16, [(0, .ref o), (1, .int x1), (2, .int x2)], [.int 1], M9)) rfl rfl rfl ?_
  exact ml_ret rfl (r_z (Or.inr rfl)) (⟨⟨_, rfl, Or.inr rfl⟩, hS12⟩)
set_option maxHeartbeats 2000000 in
theorem ti_isIndexTaken {g : xe_G} {M : mi_H} {Y : yT} {o b k da n : Nat}  (hW : WF g Y M) (hY0 : Y.1 o = some (5, [b, k])) (hY1 : Y.1 b = some (1, [da, n])) {d : Nat} (hd : 3 ≤ d) : mt (mT g) d 88 [.ref o] M (kZ g Y o M) := by
  obtain ⟨d, rfl⟩ : ∃ e, d = e + 1 := ⟨d - 1, by omega⟩
  have hS : sk g Y o M M := sk.rf hW
  refine mt_in (b := mb_88 g) rfl rfl ?_
  show ml (mT g) d (mb_88 g).2 (0, [(0, .ref o)], [], M) _
  refine ml_st (S' := (1, [(0, .ref o)], [.ref o], M)) rfl rfl rfl ?_
  refine tg_int rfl hS.1.1.1 hY0 (by decide) rfl (fun u1 g2 => ?_)
  show ml _ _ _ (4, [(0, .ref o)], [.int u1], M) _
  refine ml_st (S' := (5, [(0, .ref o)], [.int 3, .int u1], M)) rfl rfl rfl ?_
  refine ml_if2 (S1 := (10, [(0, .ref o)], [], M)) (S2 := (8, [(0, .ref o)], [], M)) rfl rfl rfl (fun c_5 => ?_) (fun c_5 => ?_)
  · have c_5 : 3 ≤ u1 := of_decide_eq_true c_5
    refine ml_blk 3 (S' := (13, [(0, .ref o)], [.ref o, .ref o, .ref o], M)) rfl ?_
    refine tg_int rfl hS.1.1.1 hY0 (by decide) rfl (fun u3 g4 => ?_)
    show ml _ _ _ (16, [(0, .ref o)], [.int u3, .ref o, .ref o], M) _
    refine ml_blk 2 (S' := (18, [(0, .ref o)], [.int (u3 + 1), .ref o, .ref o], M)) rfl ?_
    refine ml_call (a := [.ref o, .int (u3 + 1)]) (rest := [.ref o]) rfl (okc_t rfl rfl rfl hS.1.1.1 hY0 (by decide)) rfl rfl (ti_u2 hS.1.1.1 hY0 hY1 (by omega)) (fun v5 M6 h7 => ?_)
    obtain ⟨⟨u8, rfl⟩, h7⟩ := h7
    rw [h7]
    show ml _ _ _ (21, [(0, .ref o)], [.int u8, .ref o], M) _
    refine tp_put rfl hS.1.1 hY0 (by decide) rfl (⟨_, rfl⟩) rfl rfl (fun M9 hS10 f11 => ?_)
    have hS12 := hS.put hS10 f11 rfl
    show ml _ _ _ (24, [(0, .ref o)], [], M9) _
    refine ml_st (S' := (25, [(0, .ref o)], [.ref o], M9)) rfl rfl rfl ?_
    refine tg_int rfl hS12.1.1.1 hY0 (by decide) rfl (fun u13 g14 => ?_)
    show ml _ _ _ (28, [(0, .ref o)], [.int u13], M9) _
    refine ml_sw rfl (fun t_28 ht_28 => ?_)
    have kt_28 := ht_28
    have ht_28 : t_28 ∈ [64, 80, 113, 132] := mi_sw_sub ht_28 (by decide)
    simp only [List.mem_cons, List.not_mem_nil, or_false] at ht_28
    rcases ht_28 with rfl | rfl | rfl | rfl
    · show ml _ _ _ (64, [(0, .ref o)], [], M9) _
      refine ml_blk 3 (S' := (67, [(0, .ref o)], [.ref o, .ref o, .ref o], M9)) rfl ?_
      refine tg_int rfl hS12.1.1.1 hY0 (by decide) rfl (fun u15 g16 => ?_)
      show ml _ _ _ (70, [(0, .ref o)], [.int u15, .ref o, .ref o], M9) _
      refine ml_blk 2 (S' := (72, [(0, .ref o)], [.int (u15 + 3), .ref o, .ref o], M9)) rfl ?_
      refine ml_call (a := [.ref o, .int (u15 + 3)]) (rest := [.ref o]) rfl (okc_t rfl rfl rfl hS12.1.1.1 hY0 (by decide)) rfl rfl (ti_u1 hS12.1.1.1 hY0 hY1 (by omega)) (fun v17 M18 h19 => ?_)
      obtain ⟨⟨u20, rfl⟩, h19⟩ := h19
      rw [h19]
      show ml _ _ _ (75, [(0, .ref o)], [.int u20, .ref o], M9) _
      refine tp_put rfl hS12.1.1 hY0 (by decide) rfl (⟨_, rfl⟩) rfl rfl (fun M21 hS22 f23 => ?_)
      have hS24 := hS12.put hS22 f23 rfl
      show ml _ _ _ (78, [(0, .ref o)], [], M21) _
      refine ml_st (S' := (79, [(0, .ref o)], [.int 1], M21)) rfl rfl rfl ?_
      exact ml_ret rfl (r_z (Or.inr rfl)) (⟨⟨_, rfl, Or.inr rfl⟩, hS24⟩)
    · show ml _ _ _ (80, [(0, .ref o)], [], M9) _
      refine ml_blk 3 (S' := (83, [(0, .ref o)], [.ref o, .ref o, .ref o], M9)) rfl ?_
      refine tg_int rfl hS12.1.1.1 hY0 (by decide) rfl (fun u25 g26 => ?_)
      show ml _ _ _ (86, [(0, .ref o)], [.int u25, .ref o, .ref o], M9) _
      refine ml_blk 2 (S' := (88, [(0, .ref o)], [.int (u25 + 3), .ref o, .ref o], M9)) rfl ?_
      refine ml_call (a := [.ref o, .int (u25 + 3)]) (rest := [.ref o]) rfl (okc_t rfl rfl rfl hS12.1.1.1 hY0 (by decide)) rfl rfl (ti_u1 hS12.1.1.1 hY0 hY1 (by omega)) (fun v27 M28 h29 => ?_)
      obtain ⟨⟨u30, rfl⟩, h29⟩ := h29
      rw [h29]
      show ml _ _ _ (91, [(0, .ref o)], [.int u30, .ref o], M9) _
      refine tp_put rfl hS12.1.1 hY0 (by decide) rfl (⟨_, rfl⟩) rfl rfl (fun M31 hS32 f33 => ?_)
      have hS34 := hS12.put hS32 f33 rfl
      show ml _ _ _ (94, [(0, .ref o)], [], M31) _
      refine ml_blk 2 (S' := (96, [(0, .ref o)], [.ref o, .ref o], M31)) rfl ?_
      refine tg_int rfl hS34.1.1.1 hY0 (by decide) rfl (fun u35 g36 => ?_)
      show ml _ _ _ (99, [(0, .ref o)], [.int u35, .ref o], M31) _
      refine ml_blk 2 (S' := (101, [(0, .ref o)], [.int (u35 + 4), .ref o], M31)) rfl ?_
      refine ml_call (a := [.ref o, .int (u35 + 4)]) (rest := []) rfl (okc_t rfl rfl rfl hS34.1.1.1 hY0 (by decide)) rfl rfl (ti_u1 hS34.1.1.1 hY0 hY1 (by omega)) (fun v37 M38 h39 => ?_)
      obtain ⟨⟨u40, rfl⟩, h39⟩ := h39
      rw [h39]
      show ml _ _ _ (104, [(0, .ref o)], [.int u40], M31) _
      refine ml_if (S1 := (111, [(0, .ref o)], [], M31)) (S2 := (107, [(0, .ref o)], [], M31)) rfl rfl rfl (fun c_104 => ?_) (fun c_104 => ?_)
      · have c_104 : ¬ u40 = 0 := of_decide_eq_true c_104
        refine ml_st (S' := (112, [], [.int 0], M31)) rfl rfl rfl ?_
        exact ml_ret rfl (r_z (Or.inl rfl)) (⟨⟨_, rfl, Or.inl rfl⟩, hS34⟩)
      · have c_104 : ¬ (¬ u40 = 0) := of_decide_eq_false c_104
        refine ml_st (S' := (108, [(0, .ref o)], [.int 1], M31)) rfl rfl rfl ?_
        refine ml_st (S' := (112, [], [.int 1], M31)) rfl rfl rfl ?_
        exact ml_ret rfl (r_z (Or.inr rfl)) (⟨⟨_, rfl, Or.inr rfl⟩, hS34⟩)
    · show ml _ _ _ (113, [(0, .ref o)], [], M9) _
      refine ml_blk 2 (S' := (115, [(0, .ref o)], [.ref o, .ref o], M9)) rfl ?_
      refine tg_int rfl hS12.1.1.1 hY0 (by decide) rfl (fun u41 g42 => ?_)
      show ml _ _ _ (118, [(0, .ref o)], [.int u41, .ref o], M9) _
      refine ml_blk 2 (S' := (120, [(0, .ref o)], [.int (u41 + 3), .ref o], M9)) rfl ?_
      refine ml_call (a := [.ref o, .int (u41 + 3)]) (rest := []) rfl (okc_t rfl rfl rfl hS12.1.1.1 hY0 (by decide)) rfl rfl (ti_u2 hS12.1.1.1 hY0 hY1 (by omega)) (fun v43 M44 h45 => ?_)
      obtain ⟨⟨u46, rfl⟩, h45⟩ := h45
      rw [h45]
      show ml _ _ _ (123, [(0, .ref o)], [.int u46], M9) _
      refine ml_if (S1 := (130, [(0, .ref o)], [], M9)) (S2 := (126, [(0, .ref o)], [], M9)) rfl rfl rfl (fun c_123 => ?_) (fun c_123 => ?_)
      · have c_123 : ¬ u46 = 0 := of_decide_eq_true c_123
        refine ml_st (S' := (131, [], [.int 0], M9)) rfl rfl rfl ?_
        exact ml_ret rfl (r_z (Or.inl rfl)) (⟨⟨_, rfl, Or.inl rfl⟩, hS12⟩)
      · have c_123 : ¬ (¬ u46 = 0) := of_decide_eq_false c_123
        refine ml_st (S' := (127, [(0, .ref o)], [.int 1], M9)) rfl rfl rfl ?_
        refine ml_st (S' := (131, [], [.int 1], M9)) rfl rfl rfl ?_
        exact ml_ret rfl (r_z (Or.inr rfl)) (⟨⟨_, rfl, Or.inr rfl⟩, hS12⟩)
    · show ml _ _ _ (132, [(0, .ref o)], [], M9) _
      refine ml_st (S' := (133, [(0, .ref o)], [.int 1], M9)) rfl rfl rfl ?_
      exact ml_ret rfl (r_z (Or.inr rfl)) (⟨⟨_, rfl, Or.inr rfl⟩, hS12⟩)
  · have c_5 : ¬ (3 ≤ u1) := of_decide_eq_false c_5
    refine ml_st (S' := (9, [(0, .ref o)], [.int 1], M)) rfl rfl rfl ?_
    exact ml_ret rfl (r_z (Or.inr rfl)) (⟨⟨_, rfl, Or.inr rfl⟩, hS⟩)
set_option maxHeartbeats 2000000 in
theorem ti_areOperandsTaken {g : xe_G} {M : mi_H} {Y : yT} {o b k da n : Nat}  (hW : WF g Y M) (hY0 : Y.1 o = some (5, [b, k])) (hY1 : Y.1 b = some (1, [da, n])) {d : Nat} (hd : 4 ≤ d) : mt (mT g) d 87 [.ref o] M (kZ g Y o M) := by
  obtain ⟨d, rfl⟩ : ∃ e, d = e + 1 := ⟨d - 1, by omega⟩
  have hS : sk g Y o M M := sk.rf hW
  refine mt_in (b := mb_87 g) rfl rfl ?_
  show ml (mT g) d (mb_87 g).2 (0, [(0, .ref o)], [], M) _
  refine ml_st (S' := (1, [(0, .ref o)], [.ref o], M)) rfl rfl rfl ?_
  refine tg_int rfl hS.1.1.1 hY0 (by decide) rfl (fun u1 g2 => ?_)
  show ml _ _ _ (4, [(0, .ref o)], [.int u1], M) _
  refine ml_st (S' := (6, [(0, .ref o)], [.int 26, .int u1], M)) rfl rfl rfl ?_
  have J_32 : ml (mT g) d (mb_87 g).2 (32, [(0, .ref o)], [], M) (kZ g Y o M) := by
    refine ml_st (S' := (33, [(0, .ref o)], [.ref o], M)) rfl rfl rfl ?_
    refine ml_get (S' := (36, [(0, .ref o)], [.int u1], M)) rfl g2 rfl ?_
    refine ml_st (S' := (38, [(0, .ref o)], [.int 59, .int u1], M)) rfl rfl rfl ?_
    have J_64 : ml (mT g) d (mb_87 g).2 (64, [(0, .ref o)], [], M) (kZ g Y o M) := by
      refine ml_st (S' := (65, [(0, .ref o)], [.ref o], M)) rfl rfl rfl ?_
      refine ml_get (S' := (68, [(0, .ref o)], [.int u1], M)) rfl g2 rfl ?_
      refine ml_call (a := [.int u1]) (rest := []) rfl (rfl) rfl rfl (ti_isLocalOpcode hS.1.1.1  (by omega)) (fun v3 M4 h5 => ?_)
      obtain ⟨⟨u6, rfl, z7⟩, h5⟩ := h5
      rw [h5]
      show ml _ _ _ (71, [(0, .ref o)], [.int u6], M) _
      refine ml_if (S1 := (89, [(0, .ref o)], [], M)) (S2 := (74, [(0, .ref o)], [], M)) rfl rfl rfl (fun c_71 => ?_) (fun c_71 => ?_)
      · have c_71 : u6 = 0 := of_decide_eq_true c_71
        refine ml_st (S' := (90, [(0, .ref o)], [.ref o], M)) rfl rfl rfl ?_
        refine ml_get (S' := (93, [(0, .ref o)], [.int u1], M)) rfl g2 rfl ?_
        refine ml_st (S' := (96, [(0, .ref o)], [.int 153, .int u1], M)) rfl rfl rfl ?_
        have J_109 : ml (mT g) d (mb_87 g).2 (109, [(0, .ref o)], [], M) (kZ g Y o M) := by
          refine ml_st (S' := (110, [(0, .ref o)], [.ref o], M)) rfl rfl rfl ?_
          refine ml_get (S' := (113, [(0, .ref o)], [.int u1], M)) rfl g2 rfl ?_
          refine ml_st (S' := (116, [(0, .ref o)], [.int 198, .int u1], M)) rfl rfl rfl ?_
          refine ml_if2 (S1 := (129, [(0, .ref o)], [], M)) (S2 := (119, [(0, .ref o)], [], M)) rfl rfl rfl (fun c_116 => ?_) (fun c_116 => ?_)
          · have c_116 : u1 = 198 := of_decide_eq_true c_116
            refine ml_blk 3 (S' := (132, [(0, .ref o)], [.ref o, .ref o, .ref o], M)) rfl ?_
            refine tg_int rfl hS.1.1.1 hY0 (by decide) rfl (fun u8 g9 => ?_)
            show ml _ _ _ (135, [(0, .ref o)], [.int u8, .ref o, .ref o], M) _
            refine ml_blk 2 (S' := (137, [(0, .ref o)], [.int (u8 + 1), .ref o, .ref o], M)) rfl ?_
            refine ml_call (a := [.ref o, .int (u8 + 1)]) (rest := [.ref o]) rfl (okc_t rfl rfl rfl hS.1.1.1 hY0 (by decide)) rfl rfl (ti_u2 hS.1.1.1 hY0 hY1 (by omega)) (fun v10 M11 h12 => ?_)
            obtain ⟨⟨u13, rfl⟩, h12⟩ := h12
            rw [h12]
            show ml _ _ _ (140, [(0, .ref o)], [.int u13, .ref o], M) _
            refine ml_blk 2 (S' := (142, [(0, .ref o)], [.ref o, .int (u13.toInt16.toInt32), .ref o], M)) rfl ?_
            refine ml_get (S' := (145, [(0, .ref o)], [.int u1, .int (u13.toInt16.toInt32), .ref o], M)) rfl g2 rfl ?_
            refine ml_call (a := [.ref o, .int (u13.toInt16.toInt32), .int u1]) (rest := []) rfl (okc_t rfl rfl rfl hS.1.1.1 hY0 (by decide)) rfl rfl (ti_isJumpTaken hS.1.1.1 hY0 hY1 (by omega)) (fun v14 M15 h16 => ?_)
            obtain ⟨⟨u17, rfl, z18⟩, h16⟩ := h16
            have hS19 := hS.tr h16
            show ml _ _ _ (148, [(0, .ref o)], [.int u17], M15) _
            exact ml_ret rfl (r_z (z18)) (⟨⟨_, rfl, z18⟩, hS19⟩)
          · have c_116 : ¬ (u1 = 198) := of_decide_eq_false c_116
            refine ml_st (S' := (120, [(0, .ref o)], [.ref o], M)) rfl rfl rfl ?_
            refine ml_get (S' := (123, [(0, .ref o)], [.int u1], M)) rfl g2 rfl ?_
            refine ml_st (S' := (126, [(0, .ref o)], [.int 199, .int u1], M)) rfl rfl rfl ?_
            refine ml_if2 (S1 := (149, [(0, .ref o)], [], M)) (S2 := (129, [(0, .ref o)], [], M)) rfl rfl rfl (fun c_126 => ?_) (fun c_126 => ?_)
            · have c_126 : ¬ u1 = 199 := of_decide_eq_true c_126
              refine ml_st (S' := (150, [(0, .ref o)], [.ref o], M)) rfl rfl rfl ?_
              refine ml_get (S' := (153, [(0, .ref o)], [.int u1], M)) rfl g2 rfl ?_
              refine ml_sw rfl (fun t_153 ht_153 => ?_)
              have kt_153 := ht_153
              have ht_153 : t_153 ∈ [228, 245, 262, 278, 300, 330, 348, 366] := mi_sw_sub ht_153 (by decide)
              simp only [List.mem_cons, List.not_mem_nil, or_false] at ht_153
              rcases ht_153 with rfl | rfl | rfl | rfl | rfl | rfl | rfl | rfl
              · show ml _ _ _ (228, [(0, .ref o)], [], M) _
                refine ml_blk 3 (S' := (231, [(0, .ref o)], [.ref o, .ref o, .ref o], M)) rfl ?_
                refine tg_int rfl hS.1.1.1 hY0 (by decide) rfl (fun u20 g21 => ?_)
                show ml _ _ _ (234, [(0, .ref o)], [.int u20, .ref o, .ref o], M) _
                refine ml_blk 2 (S' := (236, [(0, .ref o)], [.int (u20 + 1), .ref o, .ref o], M)) rfl ?_
                refine ml_call (a := [.ref o, .int (u20 + 1)]) (rest := [.ref o]) rfl (okc_t rfl rfl rfl hS.1.1.1 hY0 (by decide)) rfl rfl (ti_u1 hS.1.1.1 hY0 hY1 (by omega)) (fun v22 M23 h24 => ?_)
                obtain ⟨⟨u25, rfl⟩, h24⟩ := h24
                rw [h24]
                show ml _ _ _ (239, [(0, .ref o)], [.int u25, .ref o], M) _
                refine ml_st (S' := (240, [(0, .ref o)], [.int (u25.toInt8.toInt32), .ref o], M)) rfl rfl rfl ?_
                refine tp_put rfl hS.1.1 hY0 (by decide) rfl (⟨_, rfl⟩) rfl rfl (fun M26 hS27 f28 => ?_)
                have hS29 := hS.put hS27 f28 rfl
                show ml _ _ _ (243, [(0, .ref o)], [], M26) _
                refine ml_st (S' := (244, [(0, .ref o)], [.int 1], M26)) rfl rfl rfl ?_
                exact ml_ret rfl (r_z (Or.inr rfl)) (⟨⟨_, rfl, Or.inr rfl⟩, hS29⟩)
              · show ml _ _ _ (245, [(0, .ref o)], [], M) _
                refine ml_blk 3 (S' := (248, [(0, .ref o)], [.ref o, .ref o, .ref o], M)) rfl ?_
                refine tg_int rfl hS.1.1.1 hY0 (by decide) rfl (fun u30 g31 => ?_)
                show ml _ _ _ (251, [(0, .ref o)], [.int u30, .ref o, .ref o], M) _
                refine ml_blk 2 (S' := (253, [(0, .ref o)], [.int (u30 + 1), .ref o, .ref o], M)) rfl ?_
                refine ml_call (a := [.ref o, .int (u30 + 1)]) (rest := [.ref o]) rfl (okc_t rfl rfl rfl hS.1.1.1 hY0 (by decide)) rfl rfl (ti_u2 hS.1.1.1 hY0 hY1 (by omega)) (fun v32 M33 h34 => ?_)
                obtain ⟨⟨u35, rfl⟩, h34⟩ := h34
                rw [h34]
                show ml _ _ _ (256, [(0, .ref o)], [.int u35, .ref o], M) _
                refine ml_st (S' := (257, [(0, .ref o)], [.int (u35.toInt16.toInt32), .ref o], M)) rfl rfl rfl ?_
                refine tp_put rfl hS.1.1 hY0 (by decide) rfl (⟨_, rfl⟩) rfl rfl (fun M36 hS37 f38 => ?_)
                have hS39 := hS.put hS37 f38 rfl
                show ml _ _ _ (260, [(0, .ref o)], [], M36) _
                refine ml_st (S' := (261, [(0, .ref o)], [.int 1], M36)) rfl rfl rfl ?_
                exact ml_ret rfl (r_z (Or.inr rfl)) (⟨⟨_, rfl, Or.inr rfl⟩, hS39⟩)
              · show ml _ _ _ (262, [(0, .ref o)], [], M) _
                refine ml_blk 3 (S' := (265, [(0, .ref o)], [.ref o, .ref o, .ref o], M)) rfl ?_
                refine tg_int rfl hS.1.1.1 hY0 (by decide) rfl (fun u40 g41 => ?_)
                show ml _ _ _ (268, [(0, .ref o)], [.int u40, .ref o, .ref o], M) _
                refine ml_blk 2 (S' := (270, [(0, .ref o)], [.int (u40 + 1), .ref o, .ref o], M)) rfl ?_
                refine ml_call (a := [.ref o, .int (u40 + 1)]) (rest := [.ref o]) rfl (okc_t rfl rfl rfl hS.1.1.1 hY0 (by decide)) rfl rfl (ti_u1 hS.1.1.1 hY0 hY1 (by omega)) (fun v42 M43 h44 => ?_)
                obtain ⟨⟨u45, rfl⟩, h44⟩ := h44
                rw [h44]
                show ml _ _ _ (273, [(0, .ref o)], [.int u45, .ref o], M) _
                refine tp_put rfl hS.1.1 hY0 (by decide) rfl (⟨_, rfl⟩) rfl rfl (fun M46 hS47 f48 => ?_)
                have hS49 := hS.put hS47 f48 rfl
                show ml _ _ _ (276, [(0, .ref o)], [], M46) _
                refine ml_st (S' := (277, [(0, .ref o)], [.int 1], M46)) rfl rfl rfl ?_
                exact ml_ret rfl (r_z (Or.inr rfl)) (⟨⟨_, rfl, Or.inr rfl⟩, hS49⟩)
              · show ml _ _ _ (278, [(0, .ref o)], [], M) _
                refine ml_blk 2 (S' := (281, [(0, .ref o)], [.int 18, .ref o], M)) rfl ?_
                refine tp_put rfl hS.1.1 hY0 (by decide) rfl (⟨_, rfl⟩) rfl rfl (fun M50 hS51 f52 => ?_)
                have hS53 := hS.put hS51 f52 rfl
                show ml _ _ _ (284, [(0, .ref o)], [], M50) _
                refine ml_blk 3 (S' := (287, [(0, .ref o)], [.ref o, .ref o, .ref o], M50)) rfl ?_
                refine tg_int rfl hS53.1.1.1 hY0 (by decide) rfl (fun u54 g55 => ?_)
                show ml _ _ _ (290, [(0, .ref o)], [.int u54, .ref o, .ref o], M50) _
                refine ml_blk 2 (S' := (292, [(0, .ref o)], [.int (u54 + 1), .ref o, .ref o], M50)) rfl ?_
                refine ml_call (a := [.ref o, .int (u54 + 1)]) (rest := [.ref o]) rfl (okc_t rfl rfl rfl hS53.1.1.1 hY0 (by decide)) rfl rfl (ti_u2 hS53.1.1.1 hY0 hY1 (by omega)) (fun v56 M57 h58 => ?_)
                obtain ⟨⟨u59, rfl⟩, h58⟩ := h58
                rw [h58]
                show ml _ _ _ (295, [(0, .ref o)], [.int u59, .ref o], M50) _
                refine tp_put rfl hS53.1.1 hY0 (by decide) rfl (⟨_, rfl⟩) rfl rfl (fun M60 hS61 f62 => ?_)
                have hS63 := hS53.put hS61 f62 rfl
                show ml _ _ _ (298, [(0, .ref o)], [], M60) _
                refine ml_st (S' := (299, [(0, .ref o)], [.int 1], M60)) rfl rfl rfl ?_
                exact ml_ret rfl (r_z (Or.inr rfl)) (⟨⟨_, rfl, Or.inr rfl⟩, hS63⟩)
              · show ml _ _ _ (300, [(0, .ref o)], [], M) _
                refine ml_blk 3 (S' := (303, [(0, .ref o)], [.ref o, .ref o, .ref o], M)) rfl ?_
                refine tg_int rfl hS.1.1.1 hY0 (by decide) rfl (fun u64 g65 => ?_)
                show ml _ _ _ (306, [(0, .ref o)], [.int u64, .ref o, .ref o], M) _
                refine ml_blk 2 (S' := (308, [(0, .ref o)], [.int (u64 + 2), .ref o, .ref o], M)) rfl ?_
                refine ml_call (a := [.ref o, .int (u64 + 2)]) (rest := [.ref o]) rfl (okc_t rfl rfl rfl hS.1.1.1 hY0 (by decide)) rfl rfl (ti_u1 hS.1.1.1 hY0 hY1 (by omega)) (fun v66 M67 h68 => ?_)
                obtain ⟨⟨u69, rfl⟩, h68⟩ := h68
                rw [h68]
                show ml _ _ _ (311, [(0, .ref o)], [.int u69, .ref o], M) _
                refine ml_st (S' := (312, [(0, .ref o)], [.int (u69.toInt8.toInt32), .ref o], M)) rfl rfl rfl ?_
                refine tp_put rfl hS.1.1 hY0 (by decide) rfl (⟨_, rfl⟩) rfl rfl (fun M70 hS71 f72 => ?_)
                have hS73 := hS.put hS71 f72 rfl
                show ml _ _ _ (315, [(0, .ref o)], [], M70) _
                refine ml_blk 3 (S' := (318, [(0, .ref o)], [.ref o, .ref o, .ref o], M70)) rfl ?_
                refine tg_int rfl hS73.1.1.1 hY0 (by decide) rfl (fun u74 g75 => ?_)
                show ml _ _ _ (321, [(0, .ref o)], [.int u74, .ref o, .ref o], M70) _
                refine ml_blk 2 (S' := (323, [(0, .ref o)], [.int (u74 + 1), .ref o, .ref o], M70)) rfl ?_
                refine ml_call (a := [.ref o, .int (u74 + 1)]) (rest := [.ref o]) rfl (okc_t rfl rfl rfl hS73.1.1.1 hY0 (by decide)) rfl rfl (ti_u1 hS73.1.1.1 hY0 hY1 (by omega)) (fun v76 M77 h78 => ?_)
                obtain ⟨⟨u79, rfl⟩, h78⟩ := h78
                rw [h78]
                show ml _ _ _ (326, [(0, .ref o)], [.int u79, .ref o], M70) _
                refine ml_call (a := [.ref o, .int u79]) (rest := []) rfl (okc_t rfl rfl rfl hS73.1.1.1 hY0 (by decide)) rfl rfl (ti_isLocalTaken hS73.1.1.1 hY0 hY1 (by omega)) (fun v80 M81 h82 => ?_)
                obtain ⟨⟨u83, rfl, z84⟩, h82⟩ := h82
                have hS85 := hS73.tr h82
                show ml _ _ _ (329, [(0, .ref o)], [.int u83], M81) _
                exact ml_ret rfl (r_z (z84)) (⟨⟨_, rfl, z84⟩, hS85⟩)
              · show ml _ _ _ (330, [(0, .ref o)], [], M) _
                refine ml_blk 3 (S' := (333, [(0, .ref o)], [.ref o, .ref o, .ref o], M)) rfl ?_
                refine tg_int rfl hS.1.1.1 hY0 (by decide) rfl (fun u86 g87 => ?_)
                show ml _ _ _ (336, [(0, .ref o)], [.int u86, .ref o, .ref o], M) _
                refine ml_blk 2 (S' := (338, [(0, .ref o)], [.int (u86 + 1), .ref o, .ref o], M)) rfl ?_
                refine ml_call (a := [.ref o, .int (u86 + 1)]) (rest := [.ref o]) rfl (okc_t rfl rfl rfl hS.1.1.1 hY0 (by decide)) rfl rfl (ti_s4 hS.1.1.1 hY0 hY1 (by omega)) (fun v88 M89 h90 => ?_)
                obtain ⟨⟨u91, rfl⟩, h90⟩ := h90
                rw [h90]
                show ml _ _ _ (341, [(0, .ref o)], [.int u91, .ref o], M) _
                refine ml_st (S' := (344, [(0, .ref o)], [.int 167, .int u91, .ref o], M)) rfl rfl rfl ?_
                refine ml_call (a := [.ref o, .int u91, .int 167]) (rest := []) rfl (okc_t rfl rfl rfl hS.1.1.1 hY0 (by decide)) rfl rfl (ti_isJumpTaken hS.1.1.1 hY0 hY1 (by omega)) (fun v92 M93 h94 => ?_)
                obtain ⟨⟨u95, rfl, z96⟩, h94⟩ := h94
                have hS97 := hS.tr h94
                show ml _ _ _ (347, [(0, .ref o)], [.int u95], M93) _
                exact ml_ret rfl (r_z (z96)) (⟨⟨_, rfl, z96⟩, hS97⟩)
              · show ml _ _ _ (348, [(0, .ref o)], [], M) _
                refine ml_blk 3 (S' := (351, [(0, .ref o)], [.ref o, .ref o, .ref o], M)) rfl ?_
                refine tg_int rfl hS.1.1.1 hY0 (by decide) rfl (fun u98 g99 => ?_)
                show ml _ _ _ (354, [(0, .ref o)], [.int u98, .ref o, .ref o], M) _
                refine ml_blk 2 (S' := (356, [(0, .ref o)], [.int (u98 + 1), .ref o, .ref o], M)) rfl ?_
                refine ml_call (a := [.ref o, .int (u98 + 1)]) (rest := [.ref o]) rfl (okc_t rfl rfl rfl hS.1.1.1 hY0 (by decide)) rfl rfl (ti_s4 hS.1.1.1 hY0 hY1 (by omega)) (fun v100 M101 h102 => ?_)
                obtain ⟨⟨u103, rfl⟩, h102⟩ := h102
                rw [h102]
                show ml _ _ _ (359, [(0, .ref o)], [.int u103, .ref o], M) _
                refine ml_st (S' := (362, [(0, .ref o)], [.int 168, .int u103, .ref o], M)) rfl rfl rfl ?_
                refine ml_call (a := [.ref o, .int u103, .int 168]) (rest := []) rfl (okc_t rfl rfl rfl hS.1.1.1 hY0 (by decide)) rfl rfl (ti_isJumpTaken hS.1.1.1 hY0 hY1 (by omega)) (fun v104 M105 h106 => ?_)
                obtain ⟨⟨u107, rfl, z108⟩, h106⟩ := h106
                have hS109 := hS.tr h106
                show ml _ _ _ (365, [(0, .ref o)], [.int u107], M105) _
                exact ml_ret rfl (r_z (z108)) (⟨⟨_, rfl, z108⟩, hS109⟩)
              · show ml _ _ _ (366, [(0, .ref o)], [], M) _
                refine ml_st (S' := (367, [(0, .ref o)], [.ref o], M)) rfl rfl rfl ?_
                refine ml_call (a := [.ref o]) (rest := []) rfl (okc_t rfl rfl rfl hS.1.1.1 hY0 (by decide)) rfl rfl (ti_isIndexTaken hS.1.1.1 hY0 hY1 (by omega)) (fun v110 M111 h112 => ?_)
                obtain ⟨⟨u113, rfl, z114⟩, h112⟩ := h112
                have hS115 := hS.tr h112
                show ml _ _ _ (370, [(0, .ref o)], [.int u113], M111) _
                exact ml_ret rfl (r_z (z114)) (⟨⟨_, rfl, z114⟩, hS115⟩)
            · have c_126 : ¬ (¬ u1 = 199) := of_decide_eq_false c_126
              refine ml_blk 3 (S' := (132, [(0, .ref o)], [.ref o, .ref o, .ref o], M)) rfl ?_
              refine tg_int rfl hS.1.1.1 hY0 (by decide) rfl (fun u116 g117 => ?_)
              show ml _ _ _ (135, [(0, .ref o)], [.int u116, .ref o, .ref o], M) _
              refine ml_blk 2 (S' := (137, [(0, .ref o)], [.int (u116 + 1), .ref o, .ref o], M)) rfl ?_
              refine ml_call (a := [.ref o, .int (u116 + 1)]) (rest := [.ref o]) rfl (okc_t rfl rfl rfl hS.1.1.1 hY0 (by decide)) rfl rfl (ti_u2 hS.1.1.1 hY0 hY1 (by omega)) (fun v118 M119 h120 => ?_)
              obtain ⟨⟨u121, rfl⟩, h120⟩ := h120
              rw [h120]
              show ml _ _ _ (140, [(0, .ref o)], [.int u121, .ref o], M) _
              refine ml_blk 2 (S' := (142, [(0, .ref o)], [.ref o, .int (u121.toInt16.toInt32), .ref o], M)) rfl ?_
              refine ml_get (S' := (145, [(0, .ref o)], [.int u1, .int (u121.toInt16.toInt32), .ref o], M)) rfl g2 rfl ?_
              refine ml_call (a := [.ref o, .int (u121.toInt16.toInt32), .int u1]) (rest := []) rfl (okc_t rfl rfl rfl hS.1.1.1 hY0 (by decide)) rfl rfl (ti_isJumpTaken hS.1.1.1 hY0 hY1 (by omega)) (fun v122 M123 h124 => ?_)
              obtain ⟨⟨u125, rfl, z126⟩, h124⟩ := h124
              have hS127 := hS.tr h124
              show ml _ _ _ (148, [(0, .ref o)], [.int u125], M123) _
              exact ml_ret rfl (r_z (z126)) (⟨⟨_, rfl, z126⟩, hS127⟩)
        refine ml_if2 (S1 := (109, [(0, .ref o)], [], M)) (S2 := (99, [(0, .ref o)], [], M)) rfl rfl rfl (fun c_96 => ?_) (fun c_96 => ?_)
        · have c_96 : u1 < 153 := of_decide_eq_true c_96
          exact J_109 
        · have c_96 : ¬ (u1 < 153) := of_decide_eq_false c_96
          refine ml_st (S' := (100, [(0, .ref o)], [.ref o], M)) rfl rfl rfl ?_
          refine ml_get (S' := (103, [(0, .ref o)], [.int u1], M)) rfl g2 rfl ?_
          refine ml_st (S' := (106, [(0, .ref o)], [.int 168, .int u1], M)) rfl rfl rfl ?_
          refine ml_if2 (S1 := (129, [(0, .ref o)], [], M)) (S2 := (109, [(0, .ref o)], [], M)) rfl rfl rfl (fun c_106 => ?_) (fun c_106 => ?_)
          · have c_106 : u1 ≤ 168 := of_decide_eq_true c_106
            refine ml_blk 3 (S' := (132, [(0, .ref o)], [.ref o, .ref o, .ref o], M)) rfl ?_
            refine tg_int rfl hS.1.1.1 hY0 (by decide) rfl (fun u128 g129 => ?_)
            show ml _ _ _ (135, [(0, .ref o)], [.int u128, .ref o, .ref o], M) _
            refine ml_blk 2 (S' := (137, [(0, .ref o)], [.int (u128 + 1), .ref o, .ref o], M)) rfl ?_
            refine ml_call (a := [.ref o, .int (u128 + 1)]) (rest := [.ref o]) rfl (okc_t rfl rfl rfl hS.1.1.1 hY0 (by decide)) rfl rfl (ti_u2 hS.1.1.1 hY0 hY1 (by omega)) (fun v130 M131 h132 => ?_)
            obtain ⟨⟨u133, rfl⟩, h132⟩ := h132
            rw [h132]
            show ml _ _ _ (140, [(0, .ref o)], [.int u133, .ref o], M) _
            refine ml_blk 2 (S' := (142, [(0, .ref o)], [.ref o, .int (u133.toInt16.toInt32), .ref o], M)) rfl ?_
            refine ml_get (S' := (145, [(0, .ref o)], [.int u1, .int (u133.toInt16.toInt32), .ref o], M)) rfl g2 rfl ?_
            refine ml_call (a := [.ref o, .int (u133.toInt16.toInt32), .int u1]) (rest := []) rfl (okc_t rfl rfl rfl hS.1.1.1 hY0 (by decide)) rfl rfl (ti_isJumpTaken hS.1.1.1 hY0 hY1 (by omega)) (fun v134 M135 h136 => ?_)
            obtain ⟨⟨u137, rfl, z138⟩, h136⟩ := h136
            have hS139 := hS.tr h136
            show ml _ _ _ (148, [(0, .ref o)], [.int u137], M135) _
            exact ml_ret rfl (r_z (z138)) (⟨⟨_, rfl, z138⟩, hS139⟩)
          · have c_106 : ¬ (u1 ≤ 168) := of_decide_eq_false c_106
            exact J_109 
      · have c_71 : ¬ (u6 = 0) := of_decide_eq_false c_71
        refine ml_blk 3 (S' := (77, [(0, .ref o)], [.ref o, .ref o, .ref o], M)) rfl ?_
        refine tg_int rfl hS.1.1.1 hY0 (by decide) rfl (fun u140 g141 => ?_)
        show ml _ _ _ (80, [(0, .ref o)], [.int u140, .ref o, .ref o], M) _
        refine ml_blk 2 (S' := (82, [(0, .ref o)], [.int (u140 + 1), .ref o, .ref o], M)) rfl ?_
        refine ml_call (a := [.ref o, .int (u140 + 1)]) (rest := [.ref o]) rfl (okc_t rfl rfl rfl hS.1.1.1 hY0 (by decide)) rfl rfl (ti_u1 hS.1.1.1 hY0 hY1 (by omega)) (fun v142 M143 h144 => ?_)
        obtain ⟨⟨u145, rfl⟩, h144⟩ := h144
        rw [h144]
        show ml _ _ _ (85, [(0, .ref o)], [.int u145, .ref o], M) _
        refine ml_call (a := [.ref o, .int u145]) (rest := []) rfl (okc_t rfl rfl rfl hS.1.1.1 hY0 (by decide)) rfl rfl (ti_isLocalTaken hS.1.1.1 hY0 hY1 (by omega)) (fun v146 M147 h148 => ?_)
        obtain ⟨⟨u149, rfl, z150⟩, h148⟩ := h148
        have hS151 := hS.tr h148
        show ml _ _ _ (88, [(0, .ref o)], [.int u149], M147) _
        exact ml_ret rfl (r_z (z150)) (⟨⟨_, rfl, z150⟩, hS151⟩)
    refine ml_if2 (S1 := (64, [(0, .ref o)], [], M)) (S2 := (41, [(0, .ref o)], [], M)) rfl rfl rfl (fun c_38 => ?_) (fun c_38 => ?_)
    · have c_38 : u1 < 59 := of_decide_eq_true c_38
      exact J_64 
    · have c_38 : ¬ (u1 < 59) := of_decide_eq_false c_38
      refine ml_st (S' := (42, [(0, .ref o)], [.ref o], M)) rfl rfl rfl ?_
      refine ml_get (S' := (45, [(0, .ref o)], [.int u1], M)) rfl g2 rfl ?_
      refine ml_st (S' := (47, [(0, .ref o)], [.int 78, .int u1], M)) rfl rfl rfl ?_
      refine ml_if2 (S1 := (64, [(0, .ref o)], [], M)) (S2 := (50, [(0, .ref o)], [], M)) rfl rfl rfl (fun c_47 => ?_) (fun c_47 => ?_)
      · have c_47 : 78 < u1 := of_decide_eq_true c_47
        exact J_64 
      · have c_47 : ¬ (78 < u1) := of_decide_eq_false c_47
        refine ml_blk 2 (S' := (52, [(0, .ref o)], [.ref o, .ref o], M)) rfl ?_
        refine ml_get (S' := (55, [(0, .ref o)], [.int u1, .ref o], M)) rfl g2 rfl ?_
        refine ml_blk 3 (S' := (60, [(0, .ref o)], [.int 54, .int (u1 - 59), .ref o], M)) rfl ?_
        refine ml_call (a := [.ref o, .int (u1 - 59), .int 54]) (rest := []) rfl (okc_t rfl rfl rfl hS.1.1.1 hY0 (by decide)) rfl rfl (ti_isShortLocalTaken hS.1.1.1 hY0 hY1 (by omega)) (fun v152 M153 h154 => ?_)
        obtain ⟨⟨u155, rfl, z156⟩, h154⟩ := h154
        have hS157 := hS.tr h154
        show ml _ _ _ (63, [(0, .ref o)], [.int u155], M153) _
        exact ml_ret rfl (r_z (z156)) (⟨⟨_, rfl, z156⟩, hS157⟩)
  refine ml_if2 (S1 := (32, [(0, .ref o)], [], M)) (S2 := (9, [(0, .ref o)], [], M)) rfl rfl rfl (fun c_6 => ?_) (fun c_6 => ?_)
  · have c_6 : u1 < 26 := of_decide_eq_true c_6
    exact J_32 
  · have c_6 : ¬ (u1 < 26) := of_decide_eq_false c_6
    refine ml_st (S' := (10, [(0, .ref o)], [.ref o], M)) rfl rfl rfl ?_
    refine ml_get (S' := (13, [(0, .ref o)], [.int u1], M)) rfl g2 rfl ?_
    refine ml_st (S' := (15, [(0, .ref o)], [.int 45, .int u1], M)) rfl rfl rfl ?_
    refine ml_if2 (S1 := (32, [(0, .ref o)], [], M)) (S2 := (18, [(0, .ref o)], [], M)) rfl rfl rfl (fun c_15 => ?_) (fun c_15 => ?_)
    · have c_15 : 45 < u1 := of_decide_eq_true c_15
      exact J_32 
    · have c_15 : ¬ (45 < u1) := of_decide_eq_false c_15
      refine ml_blk 2 (S' := (20, [(0, .ref o)], [.ref o, .ref o], M)) rfl ?_
      refine ml_get (S' := (23, [(0, .ref o)], [.int u1, .ref o], M)) rfl g2 rfl ?_
      refine ml_blk 3 (S' := (28, [(0, .ref o)], [.int 21, .int (u1 - 26), .ref o], M)) rfl ?_
      refine ml_call (a := [.ref o, .int (u1 - 26), .int 21]) (rest := []) rfl (okc_t rfl rfl rfl hS.1.1.1 hY0 (by decide)) rfl rfl (ti_isShortLocalTaken hS.1.1.1 hY0 hY1 (by omega)) (fun v158 M159 h160 => ?_)
      obtain ⟨⟨u161, rfl, z162⟩, h160⟩ := h160
      have hS163 := hS.tr h160
      show ml _ _ _ (31, [(0, .ref o)], [.int u161], M159) _
      exact ml_ret rfl (r_z (z162)) (⟨⟨_, rfl, z162⟩, hS163⟩)
set_option maxHeartbeats 2000000 in
theorem ti_isWideTaken {g : xe_G} {M : mi_H} {Y : yT} {o b k da n : Nat} {cl y9 : Int32} (hW : WF g Y M) (hY0 : Y.1 o = some (5, [b, k])) (hY1 : Y.1 b = some (1, [da, n])) (hc2 : mi_gf M o 5 2 = some (.int cl)) (hc9 : mi_gf M o 5 9 = some (.int y9)) (hk : k < 1073741824) (hcl : cl.toInt ≤ k) (h0 : 0 ≤ y9.toInt) (hp : y9.toInt < cl.toInt) {d : Nat} (hd : 3 ≤ d) : mt (mT g) d 99 [.ref o] M (qS g Y o k y9 M) := by
  obtain ⟨d, rfl⟩ : ∃ e, d = e + 1 := ⟨d - 1, by omega⟩
  have hS : sf g Y [o] M M := sf.rf hW
  refine mt_in (b := mb_99 g) rfl rfl ?_
  show ml (mT g) d (mb_99 g).2 (0, [(0, .ref o)], [], M) _
  refine ml_st (S' := (1, [(0, .ref o)], [.ref o], M)) rfl rfl rfl ?_
  refine ml_get (S' := (4, [(0, .ref o)], [.int cl], M)) rfl hc2 rfl ?_
  refine ml_st (S' := (5, [(0, .ref o)], [.ref o, .int cl], M)) rfl rfl rfl ?_
  refine ml_get (S' := (8, [(0, .ref o)], [.int y9, .int cl], M)) rfl hc9 rfl ?_
  refine ml_blk 2 (S' := (10, [(0, .ref o)], [.int 4, .int (cl - y9)], M)) rfl ?_
  refine ml_if2 (S1 := (15, [(0, .ref o)], [], M)) (S2 := (13, [(0, .ref o)], [], M)) rfl rfl rfl (fun c_10 => ?_) (fun c_10 => ?_)
  · have c_10 : 4 ≤ (cl - y9) := of_decide_eq_true c_10
    refine ml_blk 3 (S' := (18, [(0, .ref o)], [.ref o, .ref o, .ref o], M)) rfl ?_
    refine ml_get (S' := (21, [(0, .ref o)], [.int y9, .ref o, .ref o], M)) rfl hc9 rfl ?_
    refine ml_blk 2 (S' := (23, [(0, .ref o)], [.int (y9 + 1), .ref o, .ref o], M)) rfl ?_
    refine ml_call (a := [.ref o, .int (y9 + 1)]) (rest := [.ref o]) rfl (okc_t rfl rfl rfl hS.1.1 hY0 (by decide)) rfl rfl (ti_u1 hS.1.1 hY0 hY1 (by omega)) (fun v1 M2 h3 => ?_)
    obtain ⟨⟨u4, rfl⟩, h3⟩ := h3
    rw [h3]
    show ml _ _ _ (26, [(0, .ref o)], [.int u4, .ref o], M) _
    refine tp_put rfl hS.1 hY0 (by decide) rfl (⟨_, rfl⟩) rfl rfl (fun M5 hS6 f7 => ?_)
    have hS8 := hS.put hS6 f7 (by simp)
    have g9 := f7.2.1 2 _ (by decide) hc2
    have g10 := f7.2.1 9 _ (by decide) hc9
    show ml _ _ _ (29, [(0, .ref o)], [], M5) _
    refine ml_st (S' := (30, [(0, .ref o)], [.ref o], M5)) rfl rfl rfl ?_
    refine ml_get (S' := (33, [(0, .ref o)], [.int u4], M5)) rfl f7.2.2.1 rfl ?_
    refine ml_st (S' := (36, [(0, .ref o)], [.int 132, .int u4], M5)) rfl rfl rfl ?_
    refine ml_if2 (S1 := (63, [(0, .ref o)], [], M5)) (S2 := (39, [(0, .ref o)], [], M5)) rfl rfl rfl (fun c_36 => ?_) (fun c_36 => ?_)
    · have c_36 : ¬ u4 = 132 := of_decide_eq_true c_36
      refine ml_blk 2 (S' := (65, [(0, .ref o)], [.int 4, .ref o], M5)) rfl ?_
      refine tp_put rfl hS8.1 hY0 (by decide) rfl (⟨_, rfl⟩) rfl rfl (fun M11 hS12 f13 => ?_)
      have hS14 := hS8.put hS12 f13 (by simp)
      have g15 := f13.2.1 2 _ (by decide) g9
      have g16 := f13.2.1 9 _ (by decide) g10
      show ml _ _ _ (68, [(0, .ref o)], [], M11) _
      refine ml_st (S' := (69, [(0, .ref o)], [.ref o], M11)) rfl rfl rfl ?_
      refine ml_get (S' := (72, [(0, .ref o)], [.int 4], M11)) rfl f13.2.2.1 rfl ?_
      refine ml_st (S' := (73, [(0, .ref o)], [.ref o, .int 4], M11)) rfl rfl rfl ?_
      refine ml_get (S' := (76, [(0, .ref o)], [.int cl, .int 4], M11)) rfl g15 rfl ?_
      refine ml_st (S' := (77, [(0, .ref o)], [.ref o, .int cl, .int 4], M11)) rfl rfl rfl ?_
      refine ml_get (S' := (80, [(0, .ref o)], [.int y9, .int cl, .int 4], M11)) rfl g16 rfl ?_
      refine ml_st (S' := (81, [(0, .ref o)], [.int (cl - y9), .int 4], M11)) rfl rfl rfl ?_
      refine ml_if2 (S1 := (104, [], [], M11)) (S2 := (84, [(0, .ref o)], [], M11)) rfl rfl rfl (fun c_81 => ?_) (fun c_81 => ?_)
      · have c_81 : (cl - y9) < 4 := of_decide_eq_true c_81
        refine ml_st (S' := (105, [], [.int 0], M11)) rfl rfl rfl ?_
        exact ml_ret rfl (r_z (Or.inl rfl)) (⟨⟨_, rfl, Or.inl rfl⟩, hS14⟩)
      · have c_81 : ¬ ((cl - y9) < 4) := of_decide_eq_false c_81
        refine ml_st (S' := (85, [(0, .ref o)], [.ref o], M11)) rfl rfl rfl ?_
        refine tg_int rfl hS14.1.1 hY0 (by decide) rfl (fun u17 g18 => ?_)
        show ml _ _ _ (88, [(0, .ref o)], [.int u17], M11) _
        refine ml_st (S' := (91, [(0, .ref o)], [.int 132, .int u17], M11)) rfl rfl rfl ?_
        refine ml_if2 (S1 := (106, [(0, .ref o)], [], M11)) (S2 := (94, [(0, .ref o)], [], M11)) rfl rfl rfl (fun c_91 => ?_) (fun c_91 => ?_)
        · have c_91 : u17 = 132 := of_decide_eq_true c_91
          refine ml_blk 3 (S' := (109, [(0, .ref o)], [.ref o, .ref o, .ref o], M11)) rfl ?_
          refine ml_get (S' := (112, [(0, .ref o)], [.int y9, .ref o, .ref o], M11)) rfl g16 rfl ?_
          refine ml_blk 2 (S' := (114, [(0, .ref o)], [.int (y9 + 2), .ref o, .ref o], M11)) rfl ?_
          refine ml_call (a := [.ref o, .int (y9 + 2)]) (rest := [.ref o]) rfl (okc_t rfl rfl rfl hS14.1.1 hY0 (by decide)) rfl rfl (ti_u2 hS14.1.1 hY0 hY1 (by omega)) (fun v19 M20 h21 => ?_)
          obtain ⟨⟨u22, rfl⟩, h21⟩ := h21
          rw [h21]
          show ml _ _ _ (117, [(0, .ref o)], [.int u22, .ref o], M11) _
          refine ml_call (a := [.ref o, .int u22]) (rest := []) rfl (okc_t rfl rfl rfl hS14.1.1 hY0 (by decide)) rfl rfl (ti_isLocalTaken hS14.1.1 hY0 hY1 (by omega)) (fun v23 M24 h25 => ?_)
          obtain ⟨⟨u26, rfl, z27⟩, h25⟩ := h25
          have g28 := h25.2 2 _ rfl g15
          have g29 := h25.2 9 _ rfl g16
          have g30 := h25.2 4 _ rfl f13.2.2.1
          have hS31 := hS14.tr h25.1 (by simp)
          show ml _ _ _ (120, [(0, .ref o)], [.int u26], M24) _
          exact ml_ret rfl (r_z (z27)) (⟨⟨_, rfl, (z27).imp id (fun h => ⟨h, _, g30, by decide, sz_in hk hcl h0 hp (Int32.not_lt.mp c_81)⟩)⟩, hS31⟩)
        · have c_91 : ¬ (u17 = 132) := of_decide_eq_false c_91
          refine ml_st (S' := (95, [(0, .ref o)], [.ref o], M11)) rfl rfl rfl ?_
          refine ml_get (S' := (98, [(0, .ref o)], [.int u17], M11)) rfl g18 rfl ?_
          refine ml_call (a := [.int u17]) (rest := []) rfl (rfl) rfl rfl (ti_isLocalOpcode hS14.1.1  (by omega)) (fun v32 M33 h34 => ?_)
          obtain ⟨⟨u35, rfl, z36⟩, h34⟩ := h34
          rw [h34]
          show ml _ _ _ (101, [(0, .ref o)], [.int u35], M11) _
          refine ml_if (S1 := (106, [(0, .ref o)], [], M11)) (S2 := (104, [], [], M11)) rfl rfl rfl (fun c_101 => ?_) (fun c_101 => ?_)
          · have c_101 : ¬ u35 = 0 := of_decide_eq_true c_101
            refine ml_blk 3 (S' := (109, [(0, .ref o)], [.ref o, .ref o, .ref o], M11)) rfl ?_
            refine ml_get (S' := (112, [(0, .ref o)], [.int y9, .ref o, .ref o], M11)) rfl g16 rfl ?_
            refine ml_blk 2 (S' := (114, [(0, .ref o)], [.int (y9 + 2), .ref o, .ref o], M11)) rfl ?_
            refine ml_call (a := [.ref o, .int (y9 + 2)]) (rest := [.ref o]) rfl (okc_t rfl rfl rfl hS14.1.1 hY0 (by decide)) rfl rfl (ti_u2 hS14.1.1 hY0 hY1 (by omega)) (fun v37 M38 h39 => ?_)
            obtain ⟨⟨u40, rfl⟩, h39⟩ := h39
            rw [h39]
            show ml _ _ _ (117, [(0, .ref o)], [.int u40, .ref o], M11) _
            refine ml_call (a := [.ref o, .int u40]) (rest := []) rfl (okc_t rfl rfl rfl hS14.1.1 hY0 (by decide)) rfl rfl (ti_isLocalTaken hS14.1.1 hY0 hY1 (by omega)) (fun v41 M42 h43 => ?_)
            obtain ⟨⟨u44, rfl, z45⟩, h43⟩ := h43
            have g46 := h43.2 2 _ rfl g15
            have g47 := h43.2 9 _ rfl g16
            have g48 := h43.2 4 _ rfl f13.2.2.1
            have hS49 := hS14.tr h43.1 (by simp)
            show ml _ _ _ (120, [(0, .ref o)], [.int u44], M42) _
            exact ml_ret rfl (r_z (z45)) (⟨⟨_, rfl, (z45).imp id (fun h => ⟨h, _, g48, by decide, sz_in hk hcl h0 hp (Int32.not_lt.mp c_81)⟩)⟩, hS49⟩)
          · have c_101 : ¬ (¬ u35 = 0) := of_decide_eq_false c_101
            refine ml_st (S' := (105, [], [.int 0], M11)) rfl rfl rfl ?_
            exact ml_ret rfl (r_z (Or.inl rfl)) (⟨⟨_, rfl, Or.inl rfl⟩, hS14⟩)
    · have c_36 : ¬ (¬ u4 = 132) := of_decide_eq_false c_36
      refine ml_blk 2 (S' := (42, [(0, .ref o)], [.int 6, .ref o], M5)) rfl ?_
      refine tp_put rfl hS8.1 hY0 (by decide) rfl (⟨_, rfl⟩) rfl rfl (fun M50 hS51 f52 => ?_)
      have hS53 := hS8.put hS51 f52 (by simp)
      have g54 := f52.2.1 2 _ (by decide) g9
      have g55 := f52.2.1 9 _ (by decide) g10
      show ml _ _ _ (45, [(0, .ref o)], [], M50) _
      refine ml_blk 3 (S' := (48, [(0, .ref o)], [.ref o, .ref o, .ref o], M50)) rfl ?_
      refine ml_get (S' := (51, [(0, .ref o)], [.int y9, .ref o, .ref o], M50)) rfl g55 rfl ?_
      refine ml_blk 2 (S' := (53, [(0, .ref o)], [.int (y9 + 4), .ref o, .ref o], M50)) rfl ?_
      refine ml_call (a := [.ref o, .int (y9 + 4)]) (rest := [.ref o]) rfl (okc_t rfl rfl rfl hS53.1.1 hY0 (by decide)) rfl rfl (ti_u2 hS53.1.1 hY0 hY1 (by omega)) (fun v56 M57 h58 => ?_)
      obtain ⟨⟨u59, rfl⟩, h58⟩ := h58
      rw [h58]
      show ml _ _ _ (56, [(0, .ref o)], [.int u59, .ref o], M50) _
      refine ml_st (S' := (57, [(0, .ref o)], [.int (u59.toInt16.toInt32), .ref o], M50)) rfl rfl rfl ?_
      refine tp_put rfl hS53.1 hY0 (by decide) rfl (⟨_, rfl⟩) rfl rfl (fun M60 hS61 f62 => ?_)
      have hS63 := hS53.put hS61 f62 (by simp)
      have g64 := f62.2.1 2 _ (by decide) g54
      have g65 := f62.2.1 9 _ (by decide) g55
      have g66 := f62.2.1 4 _ (by decide) f52.2.2.1
      show ml _ _ _ (60, [(0, .ref o)], [], M60) _
      refine ml_st (S' := (68, [(0, .ref o)], [], M60)) rfl rfl rfl ?_
      refine ml_st (S' := (69, [(0, .ref o)], [.ref o], M60)) rfl rfl rfl ?_
      refine ml_get (S' := (72, [(0, .ref o)], [.int 6], M60)) rfl g66 rfl ?_
      refine ml_st (S' := (73, [(0, .ref o)], [.ref o, .int 6], M60)) rfl rfl rfl ?_
      refine ml_get (S' := (76, [(0, .ref o)], [.int cl, .int 6], M60)) rfl g64 rfl ?_
      refine ml_st (S' := (77, [(0, .ref o)], [.ref o, .int cl, .int 6], M60)) rfl rfl rfl ?_
      refine ml_get (S' := (80, [(0, .ref o)], [.int y9, .int cl, .int 6], M60)) rfl g65 rfl ?_
      refine ml_st (S' := (81, [(0, .ref o)], [.int (cl - y9), .int 6], M60)) rfl rfl rfl ?_
      refine ml_if2 (S1 := (104, [], [], M60)) (S2 := (84, [(0, .ref o)], [], M60)) rfl rfl rfl (fun c_81 => ?_) (fun c_81 => ?_)
      · have c_81 : (cl - y9) < 6 := of_decide_eq_true c_81
        refine ml_st (S' := (105, [], [.int 0], M60)) rfl rfl rfl ?_
        exact ml_ret rfl (r_z (Or.inl rfl)) (⟨⟨_, rfl, Or.inl rfl⟩, hS63⟩)
      · have c_81 : ¬ ((cl - y9) < 6) := of_decide_eq_false c_81
        refine ml_st (S' := (85, [(0, .ref o)], [.ref o], M60)) rfl rfl rfl ?_
        refine tg_int rfl hS63.1.1 hY0 (by decide) rfl (fun u67 g68 => ?_)
        show ml _ _ _ (88, [(0, .ref o)], [.int u67], M60) _
        refine ml_st (S' := (91, [(0, .ref o)], [.int 132, .int u67], M60)) rfl rfl rfl ?_
        refine ml_if2 (S1 := (106, [(0, .ref o)], [], M60)) (S2 := (94, [(0, .ref o)], [], M60)) rfl rfl rfl (fun c_91 => ?_) (fun c_91 => ?_)
        · have c_91 : u67 = 132 := of_decide_eq_true c_91
          refine ml_blk 3 (S' := (109, [(0, .ref o)], [.ref o, .ref o, .ref o], M60)) rfl ?_
          refine ml_get (S' := (112, [(0, .ref o)], [.int y9, .ref o, .ref o], M60)) rfl g65 rfl ?_
          refine ml_blk 2 (S' := (114, [(0, .ref o)], [.int (y9 + 2), .ref o, .ref o], M60)) rfl ?_
          refine ml_call (a := [.ref o, .int (y9 + 2)]) (rest := [.ref o]) rfl (okc_t rfl rfl rfl hS63.1.1 hY0 (by decide)) rfl rfl (ti_u2 hS63.1.1 hY0 hY1 (by omega)) (fun v69 M70 h71 => ?_)
          obtain ⟨⟨u72, rfl⟩, h71⟩ := h71
          rw [h71]
          show ml _ _ _ (117, [(0, .ref o)], [.int u72, .ref o], M60) _
          refine ml_call (a := [.ref o, .int u72]) (rest := []) rfl (okc_t rfl rfl rfl hS63.1.1 hY0 (by decide)) rfl rfl (ti_isLocalTaken hS63.1.1 hY0 hY1 (by omega)) (fun v73 M74 h75 => ?_)
          obtain ⟨⟨u76, rfl, z77⟩, h75⟩ := h75
          have g78 := h75.2 2 _ rfl g64
          have g79 := h75.2 9 _ rfl g65
          have g80 := h75.2 4 _ rfl g66
          have hS81 := hS63.tr h75.1 (by simp)
          show ml _ _ _ (120, [(0, .ref o)], [.int u76], M74) _
          exact ml_ret rfl (r_z (z77)) (⟨⟨_, rfl, (z77).imp id (fun h => ⟨h, _, g80, by decide, sz_in hk hcl h0 hp (Int32.not_lt.mp c_81)⟩)⟩, hS81⟩)
        · have c_91 : ¬ (u67 = 132) := of_decide_eq_false c_91
          refine ml_st (S' := (95, [(0, .ref o)], [.ref o], M60)) rfl rfl rfl ?_
          refine ml_get (S' := (98, [(0, .ref o)], [.int u67], M60)) rfl g68 rfl ?_
          refine ml_call (a := [.int u67]) (rest := []) rfl (rfl) rfl rfl (ti_isLocalOpcode hS63.1.1  (by omega)) (fun v82 M83 h84 => ?_)
          obtain ⟨⟨u85, rfl, z86⟩, h84⟩ := h84
          rw [h84]
          show ml _ _ _ (101, [(0, .ref o)], [.int u85], M60) _
          refine ml_if (S1 := (106, [(0, .ref o)], [], M60)) (S2 := (104, [], [], M60)) rfl rfl rfl (fun c_101 => ?_) (fun c_101 => ?_)
          · have c_101 : ¬ u85 = 0 := of_decide_eq_true c_101
            refine ml_blk 3 (S' := (109, [(0, .ref o)], [.ref o, .ref o, .ref o], M60)) rfl ?_
            refine ml_get (S' := (112, [(0, .ref o)], [.int y9, .ref o, .ref o], M60)) rfl g65 rfl ?_
            refine ml_blk 2 (S' := (114, [(0, .ref o)], [.int (y9 + 2), .ref o, .ref o], M60)) rfl ?_
            refine ml_call (a := [.ref o, .int (y9 + 2)]) (rest := [.ref o]) rfl (okc_t rfl rfl rfl hS63.1.1 hY0 (by decide)) rfl rfl (ti_u2 hS63.1.1 hY0 hY1 (by omega)) (fun v87 M88 h89 => ?_)
            obtain ⟨⟨u90, rfl⟩, h89⟩ := h89
            rw [h89]
            show ml _ _ _ (117, [(0, .ref o)], [.int u90, .ref o], M60) _
            refine ml_call (a := [.ref o, .int u90]) (rest := []) rfl (okc_t rfl rfl rfl hS63.1.1 hY0 (by decide)) rfl rfl (ti_isLocalTaken hS63.1.1 hY0 hY1 (by omega)) (fun v91 M92 h93 => ?_)
            obtain ⟨⟨u94, rfl, z95⟩, h93⟩ := h93
            have g96 := h93.2 2 _ rfl g64
            have g97 := h93.2 9 _ rfl g65
            have g98 := h93.2 4 _ rfl g66
            have hS99 := hS63.tr h93.1 (by simp)
            show ml _ _ _ (120, [(0, .ref o)], [.int u94], M92) _
            exact ml_ret rfl (r_z (z95)) (⟨⟨_, rfl, (z95).imp id (fun h => ⟨h, _, g98, by decide, sz_in hk hcl h0 hp (Int32.not_lt.mp c_81)⟩)⟩, hS99⟩)
          · have c_101 : ¬ (¬ u85 = 0) := of_decide_eq_false c_101
            refine ml_st (S' := (105, [], [.int 0], M60)) rfl rfl rfl ?_
            exact ml_ret rfl (r_z (Or.inl rfl)) (⟨⟨_, rfl, Or.inl rfl⟩, hS63⟩)
  · have c_10 : ¬ (4 ≤ (cl - y9)) := of_decide_eq_false c_10
    refine ml_st (S' := (14, [(0, .ref o)], [.int 0], M)) rfl rfl rfl ?_
    exact ml_ret rfl (r_z (Or.inl rfl)) (⟨⟨_, rfl, Or.inl rfl⟩, hS⟩)
set_option maxHeartbeats 2000000 in
theorem ti_isTableTaken {g : xe_G} {M : mi_H} {Y : yT} {o b k da n : Nat} {cl y9 sa : Int32} (hW : WF g Y M) (hY0 : Y.1 o = some (5, [b, k])) (hY1 : Y.1 b = some (1, [da, n])) (hc2 : mi_gf M o 5 2 = some (.int cl)) (hc9 : mi_gf M o 5 9 = some (.int y9)) (hc11 : mi_gf M o 5 11 = some (.int sa)) (hk : k < 1073741824) (hcl : cl.toInt ≤ k) (h0 : 0 ≤ y9.toInt) (hp : y9.toInt < cl.toInt) (h1 : y9.toInt < sa.toInt) (h2 : sa.toInt ≤ y9.toInt + 4) {d : Nat} (hd : 3 ≤ d) : mt (mT g) d 97 [.ref o] M (qS g Y o k y9 M) := by
  obtain ⟨d, rfl⟩ : ∃ e, d = e + 1 := ⟨d - 1, by omega⟩
  have hS : sf g Y [o] M M := sf.rf hW
  refine mt_in (b := mb_97 g) rfl rfl ?_
  show ml (mT g) d (mb_97 g).2 (0, [(0, .ref o)], [], M) _
  refine ml_st (S' := (1, [(0, .ref o)], [.ref o], M)) rfl rfl rfl ?_
  refine ml_get (S' := (4, [(0, .ref o)], [.int cl], M)) rfl hc2 rfl ?_
  refine ml_st (S' := (5, [(0, .ref o)], [.ref o, .int cl], M)) rfl rfl rfl ?_
  refine ml_get (S' := (8, [(0, .ref o)], [.int sa, .int cl], M)) rfl hc11 rfl ?_
  refine ml_blk 2 (S' := (11, [(0, .ref o)], [.int 12, .int (cl - sa)], M)) rfl ?_
  refine ml_if2 (S1 := (16, [(0, .ref o)], [], M)) (S2 := (14, [(0, .ref o)], [], M)) rfl rfl rfl (fun c_11 => ?_) (fun c_11 => ?_)
  · have c_11 : 12 ≤ (cl - sa) := of_decide_eq_true c_11
    refine ml_blk 3 (S' := (19, [(0, .ref o)], [.ref o, .ref o, .ref o], M)) rfl ?_
    refine ml_get (S' := (22, [(0, .ref o)], [.int sa, .ref o, .ref o], M)) rfl hc11 rfl ?_
    refine ml_blk 2 (S' := (24, [(0, .ref o)], [.int (sa + 4), .ref o, .ref o], M)) rfl ?_
    refine ml_call (a := [.ref o, .int (sa + 4)]) (rest := [.ref o]) rfl (okc_t rfl rfl rfl hS.1.1 hY0 (by decide)) rfl rfl (ti_s4 hS.1.1 hY0 hY1 (by omega)) (fun v1 M2 h3 => ?_)
    obtain ⟨⟨u4, rfl⟩, h3⟩ := h3
    rw [h3]
    show ml _ _ _ (27, [(0, .ref o)], [.int u4, .ref o], M) _
    refine tp_put rfl hS.1 hY0 (by decide) rfl (⟨_, rfl⟩) rfl rfl (fun M5 hS6 f7 => ?_)
    have hS8 := hS.put hS6 f7 (by simp)
    have g9 := f7.2.1 2 _ (by decide) hc2
    have g10 := f7.2.1 9 _ (by decide) hc9
    have g11 := f7.2.1 11 _ (by decide) hc11
    show ml _ _ _ (30, [(0, .ref o)], [], M5) _
    refine ml_blk 3 (S' := (33, [(0, .ref o)], [.ref o, .ref o, .ref o], M5)) rfl ?_
    refine ml_get (S' := (36, [(0, .ref o)], [.int sa, .ref o, .ref o], M5)) rfl g11 rfl ?_
    refine ml_blk 2 (S' := (39, [(0, .ref o)], [.int (sa + 8), .ref o, .ref o], M5)) rfl ?_
    refine ml_call (a := [.ref o, .int (sa + 8)]) (rest := [.ref o]) rfl (okc_t rfl rfl rfl hS8.1.1 hY0 (by decide)) rfl rfl (ti_s4 hS8.1.1 hY0 hY1 (by omega)) (fun v12 M13 h14 => ?_)
    obtain ⟨⟨u15, rfl⟩, h14⟩ := h14
    rw [h14]
    show ml _ _ _ (42, [(0, .ref o)], [.int u15, .ref o], M5) _
    refine tp_put rfl hS8.1 hY0 (by decide) rfl (⟨_, rfl⟩) rfl rfl (fun M16 hS17 f18 => ?_)
    have hS19 := hS8.put hS17 f18 (by simp)
    have g20 := f18.2.1 2 _ (by decide) g9
    have g21 := f18.2.1 9 _ (by decide) g10
    have g22 := f18.2.1 11 _ (by decide) g11
    show ml _ _ _ (45, [(0, .ref o)], [], M16) _
    refine ml_st (S' := (46, [(0, .ref o)], [.ref o], M16)) rfl rfl rfl ?_
    refine ml_get (S' := (49, [(0, .ref o)], [.int u15], M16)) rfl f18.2.2.1 rfl ?_
    refine ml_blk 2 (S' := (51, [(0, .ref o)], [.ref o, .long (Int32.toInt64 u15)], M16)) rfl ?_
    refine tg_int rfl hS19.1.1 hY0 (by decide) rfl (fun u23 g24 => ?_)
    show ml _ _ _ (54, [(0, .ref o)], [.int u23, .long (Int32.toInt64 u15)], M16) _
    refine ml_blk 3 (S' := (57, [(0, .ref o)], [.long 1, .long ((Int32.toInt64 u15) - (Int32.toInt64 u23))], M16)) rfl ?_
    refine ml_st (S' := (58, [(0, .ref o)], [.long (((Int32.toInt64 u15) - (Int32.toInt64 u23)) + 1)], M16)) rfl rfl rfl ?_
    refine ml_st (S' := (59, [(1, .long (((Int32.toInt64 u15) - (Int32.toInt64 u23)) + 1)), (0, .ref o)], [], M16)) rfl rfl rfl ?_
    refine ml_blk 3 (S' := (62, [(1, .long (((Int32.toInt64 u15) - (Int32.toInt64 u23)) + 1)), (0, .ref o)], [.int (lg_cmp (((Int32.toInt64 u15) - (Int32.toInt64 u23)) + 1) 1)], M16)) rfl ?_
    refine ml_if (S1 := (87, [], [], M16)) (S2 := (65, [(1, .long (((Int32.toInt64 u15) - (Int32.toInt64 u23)) + 1)), (0, .ref o)], [], M16)) rfl rfl rfl (fun c_62 => ?_) (fun c_62 => ?_)
    · have c_62 : (lg_cmp (((Int32.toInt64 u15) - (Int32.toInt64 u23)) + 1) 1) < 0 := of_decide_eq_true c_62
      refine ml_st (S' := (88, [], [.int 0], M16)) rfl rfl rfl ?_
      exact ml_ret rfl (r_z (Or.inl rfl)) (⟨⟨_, rfl, Or.inl rfl⟩, hS19⟩)
    · have c_62 : ¬ ((lg_cmp (((Int32.toInt64 u15) - (Int32.toInt64 u23)) + 1) 1) < 0) := of_decide_eq_false c_62
      refine ml_blk 3 (S' := (70, [(1, .long (((Int32.toInt64 u15) - (Int32.toInt64 u23)) + 1)), (0, .ref o)], [.long ((((Int32.toInt64 u15) - (Int32.toInt64 u23)) + 1) * 4)], M16)) rfl ?_
      refine ml_st (S' := (71, [(1, .long (((Int32.toInt64 u15) - (Int32.toInt64 u23)) + 1)), (0, .ref o)], [.ref o, .long ((((Int32.toInt64 u15) - (Int32.toInt64 u23)) + 1) * 4)], M16)) rfl rfl rfl ?_
      refine ml_get (S' := (74, [(1, .long (((Int32.toInt64 u15) - (Int32.toInt64 u23)) + 1)), (0, .ref o)], [.int cl, .long ((((Int32.toInt64 u15) - (Int32.toInt64 u23)) + 1) * 4)], M16)) rfl g20 rfl ?_
      refine ml_st (S' := (75, [(1, .long (((Int32.toInt64 u15) - (Int32.toInt64 u23)) + 1)), (0, .ref o)], [.ref o, .int cl, .long ((((Int32.toInt64 u15) - (Int32.toInt64 u23)) + 1) * 4)], M16)) rfl rfl rfl ?_
      refine ml_get (S' := (78, [(1, .long (((Int32.toInt64 u15) - (Int32.toInt64 u23)) + 1)), (0, .ref o)], [.int sa, .int cl, .long ((((Int32.toInt64 u15) - (Int32.toInt64 u23)) + 1) * 4)], M16)) rfl g22 rfl ?_
      refine ml_blk 3 (S' := (82, [(1, .long (((Int32.toInt64 u15) - (Int32.toInt64 u23)) + 1)), (0, .ref o)], [.int ((cl - sa) - 12), .long ((((Int32.toInt64 u15) - (Int32.toInt64 u23)) + 1) * 4)], M16)) rfl ?_
      refine ml_blk 2 (S' := (84, [(1, .long (((Int32.toInt64 u15) - (Int32.toInt64 u23)) + 1)), (0, .ref o)], [.int (lg_cmp ((((Int32.toInt64 u15) - (Int32.toInt64 u23)) + 1) * 4) (Int32.toInt64 ((cl - sa) - 12)))], M16)) rfl ?_
      refine ml_if (S1 := (89, [(1, .long (((Int32.toInt64 u15) - (Int32.toInt64 u23)) + 1)), (0, .ref o)], [], M16)) (S2 := (87, [], [], M16)) rfl rfl rfl (fun c_84 => ?_) (fun c_84 => ?_)
      · have c_84 : (lg_cmp ((((Int32.toInt64 u15) - (Int32.toInt64 u23)) + 1) * 4) (Int32.toInt64 ((cl - sa) - 12))) ≤ 0 := of_decide_eq_true c_84
        refine ml_blk 3 (S' := (92, [(1, .long (((Int32.toInt64 u15) - (Int32.toInt64 u23)) + 1)), (0, .ref o)], [.int (Int64.toInt32 (((Int32.toInt64 u15) - (Int32.toInt64 u23)) + 1)), .ref o], M16)) rfl ?_
        refine ml_blk 2 (S' := (94, [(1, .long (((Int32.toInt64 u15) - (Int32.toInt64 u23)) + 1)), (0, .ref o)], [.int ((Int64.toInt32 (((Int32.toInt64 u15) - (Int32.toInt64 u23)) + 1)) + 1), .ref o], M16)) rfl ?_
        refine tp_put rfl hS19.1 hY0 (by decide) rfl (⟨_, rfl⟩) rfl rfl (fun M25 hS26 f27 => ?_)
        have hS28 := hS19.put hS26 f27 (by simp)
        have g29 := f27.2.1 2 _ (by decide) g20
        have g30 := f27.2.1 9 _ (by decide) g21
        have g31 := f27.2.1 11 _ (by decide) g22
        show ml _ _ _ (97, [(1, .long (((Int32.toInt64 u15) - (Int32.toInt64 u23)) + 1)), (0, .ref o)], [], M25) _
        refine ml_blk 2 (S' := (99, [(1, .long (((Int32.toInt64 u15) - (Int32.toInt64 u23)) + 1)), (0, .ref o)], [.ref o, .ref o], M25)) rfl ?_
        refine ml_get (S' := (102, [(1, .long (((Int32.toInt64 u15) - (Int32.toInt64 u23)) + 1)), (0, .ref o)], [.int sa, .ref o], M25)) rfl g31 rfl ?_
        refine ml_blk 3 (S' := (106, [(1, .long (((Int32.toInt64 u15) - (Int32.toInt64 u23)) + 1)), (0, .ref o)], [.int 4, .int (sa + 12), .ref o], M25)) rfl ?_
        refine ml_blk 3 (S' := (109, [(1, .long (((Int32.toInt64 u15) - (Int32.toInt64 u23)) + 1)), (0, .ref o)], [.int (4 * (Int64.toInt32 (((Int32.toInt64 u15) - (Int32.toInt64 u23)) + 1))), .int (sa + 12), .ref o], M25)) rfl ?_
        refine ml_blk 2 (S' := (111, [(1, .long (((Int32.toInt64 u15) - (Int32.toInt64 u23)) + 1)), (0, .ref o)], [.ref o, .int ((sa + 12) + (4 * (Int64.toInt32 (((Int32.toInt64 u15) - (Int32.toInt64 u23)) + 1)))), .ref o], M25)) rfl ?_
        refine ml_get (S' := (114, [(1, .long (((Int32.toInt64 u15) - (Int32.toInt64 u23)) + 1)), (0, .ref o)], [.int y9, .int ((sa + 12) + (4 * (Int64.toInt32 (((Int32.toInt64 u15) - (Int32.toInt64 u23)) + 1)))), .ref o], M25)) rfl g30 rfl ?_
        refine ml_st (S' := (115, [(1, .long (((Int32.toInt64 u15) - (Int32.toInt64 u23)) + 1)), (0, .ref o)], [.int (((sa + 12) + (4 * (Int64.toInt32 (((Int32.toInt64 u15) - (Int32.toInt64 u23)) + 1)))) - y9), .ref o], M25)) rfl rfl rfl ?_
        refine tp_put rfl hS28.1 hY0 (by decide) rfl (⟨_, rfl⟩) rfl rfl (fun M32 hS33 f34 => ?_)
        have hS35 := hS28.put hS33 f34 (by simp)
        have g36 := f34.2.1 2 _ (by decide) g29
        have g37 := f34.2.1 9 _ (by decide) g30
        have g38 := f34.2.1 11 _ (by decide) g31
        show ml _ _ _ (118, [(1, .long (((Int32.toInt64 u15) - (Int32.toInt64 u23)) + 1)), (0, .ref o)], [], M32) _
        refine ml_st (S' := (119, [(1, .long (((Int32.toInt64 u15) - (Int32.toInt64 u23)) + 1)), (0, .ref o)], [.int 1], M32)) rfl rfl rfl ?_
        exact ml_ret rfl (r_z (Or.inr rfl)) (⟨⟨_, rfl, Or.inr ⟨rfl, _, f34.2.2.1, (tab_sz hk hcl h0 h1 h2 hp c_62 c_84).1, (tab_sz hk hcl h0 h1 h2 hp c_62 c_84).2⟩⟩, hS35⟩)
      · have c_84 : ¬ ((lg_cmp ((((Int32.toInt64 u15) - (Int32.toInt64 u23)) + 1) * 4) (Int32.toInt64 ((cl - sa) - 12))) ≤ 0) := of_decide_eq_false c_84
        refine ml_st (S' := (88, [], [.int 0], M16)) rfl rfl rfl ?_
        exact ml_ret rfl (r_z (Or.inl rfl)) (⟨⟨_, rfl, Or.inl rfl⟩, hS19⟩)
  · have c_11 : ¬ (12 ≤ (cl - sa)) := of_decide_eq_false c_11
    refine ml_st (S' := (15, [(0, .ref o)], [.int 0], M)) rfl rfl rfl ?_
    exact ml_ret rfl (r_z (Or.inl rfl)) (⟨⟨_, rfl, Or.inl rfl⟩, hS⟩)
set_option maxHeartbeats 2000000 in
theorem ti_isLookupTaken {g : xe_G} {M : mi_H} {Y : yT} {o b k da n : Nat} {cl y9 sa : Int32} (hW : WF g Y M) (hY0 : Y.1 o = some (5, [b, k])) (hY1 : Y.1 b = some (1, [da, n])) (hc2 : mi_gf M o 5 2 = some (.int cl)) (hc9 : mi_gf M o 5 9 = some (.int y9)) (hc11 : mi_gf M o 5 11 = some (.int sa)) (hk : k < 1073741824) (hcl : cl.toInt ≤ k) (h0 : 0 ≤ y9.toInt) (hp : y9.toInt < cl.toInt) (h1 : y9.toInt < sa.toInt) (h2 : sa.toInt ≤ y9.toInt + 4) {d : Nat} (hd : 4 ≤ d) : mt (mT g) d 93 [.ref o] M (qS g Y o k y9 M) := by
  obtain ⟨d, rfl⟩ : ∃ e, d = e + 1 := ⟨d - 1, by omega⟩
  have hS : sf g Y [o] M M := sf.rf hW
  refine mt_in (b := mb_93 g) rfl rfl ?_
  show ml (mT g) d (mb_93 g).2 (0, [(0, .ref o)], [], M) _
  refine ml_st (S' := (1, [(0, .ref o)], [.ref o], M)) rfl rfl rfl ?_
  refine ml_get (S' := (4, [(0, .ref o)], [.int cl], M)) rfl hc2 rfl ?_
  refine ml_st (S' := (5, [(0, .ref o)], [.ref o, .int cl], M)) rfl rfl rfl ?_
  refine ml_get (S' := (8, [(0, .ref o)], [.int sa, .int cl], M)) rfl hc11 rfl ?_
  refine ml_blk 2 (S' := (11, [(0, .ref o)], [.int 8, .int (cl - sa)], M)) rfl ?_
  refine ml_if2 (S1 := (16, [(0, .ref o)], [], M)) (S2 := (14, [(0, .ref o)], [], M)) rfl rfl rfl (fun c_11 => ?_) (fun c_11 => ?_)
  · have c_11 : 8 ≤ (cl - sa) := of_decide_eq_true c_11
    refine ml_blk 3 (S' := (19, [(0, .ref o)], [.ref o, .ref o, .ref o], M)) rfl ?_
    refine ml_get (S' := (22, [(0, .ref o)], [.int sa, .ref o, .ref o], M)) rfl hc11 rfl ?_
    refine ml_blk 2 (S' := (24, [(0, .ref o)], [.int (sa + 4), .ref o, .ref o], M)) rfl ?_
    refine ml_call (a := [.ref o, .int (sa + 4)]) (rest := [.ref o]) rfl (okc_t rfl rfl rfl hS.1.1 hY0 (by decide)) rfl rfl (ti_s4 hS.1.1 hY0 hY1 (by omega)) (fun v1 M2 h3 => ?_)
    obtain ⟨⟨u4, rfl⟩, h3⟩ := h3
    rw [h3]
    show ml _ _ _ (27, [(0, .ref o)], [.int u4, .ref o], M) _
    refine tp_put rfl hS.1 hY0 (by decide) rfl (⟨_, rfl⟩) rfl rfl (fun M5 hS6 f7 => ?_)
    have hS8 := hS.put hS6 f7 (by simp)
    have g9 := f7.2.1 2 _ (by decide) hc2
    have g10 := f7.2.1 9 _ (by decide) hc9
    have g11 := f7.2.1 11 _ (by decide) hc11
    show ml _ _ _ (30, [(0, .ref o)], [], M5) _
    refine ml_st (S' := (31, [(0, .ref o)], [.ref o], M5)) rfl rfl rfl ?_
    refine ml_get (S' := (34, [(0, .ref o)], [.int u4], M5)) rfl f7.2.2.1 rfl ?_
    refine ml_if (S1 := (59, [], [], M5)) (S2 := (37, [(0, .ref o)], [], M5)) rfl rfl rfl (fun c_34 => ?_) (fun c_34 => ?_)
    · have c_34 : u4 < 0 := of_decide_eq_true c_34
      refine ml_st (S' := (60, [], [.int 0], M5)) rfl rfl rfl ?_
      exact ml_ret rfl (r_z (Or.inl rfl)) (⟨⟨_, rfl, Or.inl rfl⟩, hS8⟩)
    · have c_34 : ¬ (u4 < 0) := of_decide_eq_false c_34
      refine ml_st (S' := (38, [(0, .ref o)], [.ref o], M5)) rfl rfl rfl ?_
      refine ml_get (S' := (41, [(0, .ref o)], [.int u4], M5)) rfl f7.2.2.1 rfl ?_
      refine ml_st (S' := (42, [(0, .ref o)], [.ref o, .int u4], M5)) rfl rfl rfl ?_
      refine ml_get (S' := (45, [(0, .ref o)], [.int cl, .int u4], M5)) rfl g9 rfl ?_
      refine ml_st (S' := (46, [(0, .ref o)], [.ref o, .int cl, .int u4], M5)) rfl rfl rfl ?_
      refine ml_get (S' := (49, [(0, .ref o)], [.int sa, .int cl, .int u4], M5)) rfl g11 rfl ?_
      refine ml_blk 3 (S' := (53, [(0, .ref o)], [.int ((cl - sa) - 8), .int u4], M5)) rfl ?_
      refine ml_st (S' := (55, [(0, .ref o)], [.int 8, .int ((cl - sa) - 8), .int u4], M5)) rfl rfl rfl ?_
      refine ml_st (S' := (56, [(0, .ref o)], [.int (((cl - sa) - 8) / 8), .int u4], M5)) rfl rfl rfl ?_
      refine ml_if2 (S1 := (61, [(0, .ref o)], [], M5)) (S2 := (59, [], [], M5)) rfl rfl rfl (fun c_56 => ?_) (fun c_56 => ?_)
      · have c_56 : u4 ≤ (((cl - sa) - 8) / 8) := of_decide_eq_true c_56
        refine ml_blk 2 (S' := (63, [(0, .ref o)], [.ref o, .ref o], M5)) rfl ?_
        refine ml_get (S' := (66, [(0, .ref o)], [.int u4, .ref o], M5)) rfl f7.2.2.1 rfl ?_
        refine ml_blk 2 (S' := (68, [(0, .ref o)], [.int (u4 + 1), .ref o], M5)) rfl ?_
        refine tp_put rfl hS8.1 hY0 (by decide) rfl (⟨_, rfl⟩) rfl rfl (fun M12 hS13 f14 => ?_)
        have hS15 := hS8.put hS13 f14 (by simp)
        have g16 := f14.2.1 2 _ (by decide) g9
        have g17 := f14.2.1 9 _ (by decide) g10
        have g18 := f14.2.1 11 _ (by decide) g11
        have g19 := f14.2.1 5 _ (by decide) f7.2.2.1
        show ml _ _ _ (71, [(0, .ref o)], [], M12) _
        refine ml_blk 2 (S' := (73, [(0, .ref o)], [.ref o, .ref o], M12)) rfl ?_
        refine ml_get (S' := (76, [(0, .ref o)], [.int sa, .ref o], M12)) rfl g18 rfl ?_
        refine ml_blk 3 (S' := (81, [(0, .ref o)], [.int 8, .int (sa + 8), .ref o], M12)) rfl ?_
        refine ml_st (S' := (82, [(0, .ref o)], [.ref o, .int 8, .int (sa + 8), .ref o], M12)) rfl rfl rfl ?_
        refine ml_get (S' := (85, [(0, .ref o)], [.int u4, .int 8, .int (sa + 8), .ref o], M12)) rfl g19 rfl ?_
        refine ml_blk 3 (S' := (88, [(0, .ref o)], [.ref o, .int ((sa + 8) + (8 * u4)), .ref o], M12)) rfl ?_
        refine ml_get (S' := (91, [(0, .ref o)], [.int y9, .int ((sa + 8) + (8 * u4)), .ref o], M12)) rfl g17 rfl ?_
        refine ml_st (S' := (92, [(0, .ref o)], [.int (((sa + 8) + (8 * u4)) - y9), .ref o], M12)) rfl rfl rfl ?_
        refine tp_put rfl hS15.1 hY0 (by decide) rfl (⟨_, rfl⟩) rfl rfl (fun M20 hS21 f22 => ?_)
        have hS23 := hS15.put hS21 f22 (by simp)
        have g24 := f22.2.1 2 _ (by decide) g16
        have g25 := f22.2.1 9 _ (by decide) g17
        have g26 := f22.2.1 11 _ (by decide) g18
        have g27 := f22.2.1 5 _ (by decide) g19
        show ml _ _ _ (95, [(0, .ref o)], [], M20) _
        refine ml_st (S' := (96, [(0, .ref o)], [.int 2], M20)) rfl rfl rfl ?_
        refine ml_st (S' := (97, [(0, .ref o), (1, .int 2)], [], M20)) rfl rfl rfl ?_
        have L_97 : ∀ (n_97 : Nat) (i97_1 : Int32), (2147483648 - i97_1.toInt).toNat ≤ n_97 → ml (mT g) d (mb_93 g).2 (97, [(0, .ref o), (1, .int i97_1)], [], M20) (qS g Y o k y9 M) := by
          intro n_97
          induction n_97 with
          | zero => intro i97_1 hn; exact (loop_zero hn).elim
          | succ n_97 ih_97 =>
            intro i97_1 hn_97
            refine ml_blk 2 (S' := (99, [(0, .ref o), (1, .int i97_1)], [.ref o, .int i97_1], M20)) rfl ?_
            refine tg_int rfl hS23.1.1 hY0 (by decide) rfl (fun u28 g29 => ?_)
            show ml _ _ _ (102, [(0, .ref o), (1, .int i97_1)], [.int u28, .int i97_1], M20) _
            refine ml_if2 (S1 := (128, [(0, .ref o), (1, .int i97_1)], [], M20)) (S2 := (105, [(0, .ref o), (1, .int i97_1)], [], M20)) rfl rfl rfl (fun c_102 => ?_) (fun c_102 => ?_)
            · have c_102 : u28 ≤ i97_1 := of_decide_eq_true c_102
              refine ml_st (S' := (129, [(0, .ref o), (1, .int i97_1)], [.int 1], M20)) rfl rfl rfl ?_
              exact ml_ret rfl (r_z (Or.inr rfl)) (⟨⟨_, rfl, Or.inr ⟨rfl, _, f22.2.2.1, (look_sz hk hcl h0 h1 h2 hp c_11 c_34 c_56).1, (look_sz hk hcl h0 h1 h2 hp c_11 c_34 c_56).2⟩⟩, hS23⟩)
            · have c_102 : ¬ (u28 ≤ i97_1) := of_decide_eq_false c_102
              refine ml_blk 3 (S' := (108, [(0, .ref o), (1, .int i97_1)], [.int 1, .int i97_1, .ref o], M20)) rfl ?_
              refine ml_st (S' := (109, [(0, .ref o), (1, .int i97_1)], [.int (i97_1 - 1), .ref o], M20)) rfl rfl rfl ?_
              refine ml_call (a := [.ref o, .int (i97_1 - 1)]) (rest := []) rfl (okc_t rfl rfl rfl hS23.1.1 hY0 (by decide)) rfl rfl (ti_keyOf hS23.1.1 hY0 hY1 (by omega)) (fun v30 M31 h32 => ?_)
              obtain ⟨⟨u33, rfl⟩, h32⟩ := h32
              rw [h32]
              show ml _ _ _ (112, [(0, .ref o), (1, .int i97_1)], [.int u33], M20) _
              refine ml_blk 2 (S' := (114, [(0, .ref o), (1, .int i97_1)], [.int i97_1, .ref o, .int u33], M20)) rfl ?_
              refine ml_call (a := [.ref o, .int i97_1]) (rest := [.int u33]) rfl (okc_t rfl rfl rfl hS23.1.1 hY0 (by decide)) rfl rfl (ti_keyOf hS23.1.1 hY0 hY1 (by omega)) (fun v34 M35 h36 => ?_)
              obtain ⟨⟨u37, rfl⟩, h36⟩ := h36
              rw [h36]
              show ml _ _ _ (117, [(0, .ref o), (1, .int i97_1)], [.int u37, .int u33], M20) _
              refine ml_if2 (S1 := (122, [(0, .ref o), (1, .int i97_1)], [], M20)) (S2 := (120, [(0, .ref o), (1, .int i97_1)], [], M20)) rfl rfl rfl (fun c_117 => ?_) (fun c_117 => ?_)
              · have c_117 : u33 < u37 := of_decide_eq_true c_117
                refine ml_st (S' := (125, [(1, .int (i97_1 + 1)), (0, .ref o)], [], M20)) rfl rfl rfl ?_
                refine ml_st (S' := (97, [(0, .ref o), (1, .int (i97_1 + 1))], [], M20)) rfl rfl rfl ?_
                exact ih_97 (i97_1 + 1) (loop_inc (Int32.not_le.mp c_102) hn_97) 
              · have c_117 : ¬ (u33 < u37) := of_decide_eq_false c_117
                refine ml_st (S' := (121, [(0, .ref o), (1, .int i97_1)], [.int 0], M20)) rfl rfl rfl ?_
                exact ml_ret rfl (r_z (Or.inl rfl)) (⟨⟨_, rfl, Or.inl rfl⟩, hS23⟩)
        exact L_97 _ 2 (Nat.le_refl _) 
      · have c_56 : ¬ (u4 ≤ (((cl - sa) - 8) / 8)) := of_decide_eq_false c_56
        refine ml_st (S' := (60, [], [.int 0], M5)) rfl rfl rfl ?_
        exact ml_ret rfl (r_z (Or.inl rfl)) (⟨⟨_, rfl, Or.inl rfl⟩, hS8⟩)
  · have c_11 : ¬ (8 ≤ (cl - sa)) := of_decide_eq_false c_11
    refine ml_st (S' := (15, [(0, .ref o)], [.int 0], M)) rfl rfl rfl ?_
    exact ml_ret rfl (r_z (Or.inl rfl)) (⟨⟨_, rfl, Or.inl rfl⟩, hS⟩)
set_option maxHeartbeats 2000000 in
theorem ti_isSwitchTaken {g : xe_G} {M : mi_H} {Y : yT} {o b k da n : Nat} {cl y9 : Int32} (hW : WF g Y M) (hY0 : Y.1 o = some (5, [b, k])) (hY1 : Y.1 b = some (1, [da, n])) (hc2 : mi_gf M o 5 2 = some (.int cl)) (hc9 : mi_gf M o 5 9 = some (.int y9)) (hk : k < 1073741824) (hcl : cl.toInt ≤ k) (h0 : 0 ≤ y9.toInt) (hp : y9.toInt < cl.toInt) {d : Nat} (hd : 5 ≤ d) : mt (mT g) d 96 [.ref o] M (qS g Y o k y9 M) := by
  obtain ⟨d, rfl⟩ : ∃ e, d = e + 1 := ⟨d - 1, by omega⟩
  have hS : sf g Y [o] M M := sf.rf hW
  refine mt_in (b := mb_96 g) rfl rfl ?_
  show ml (mT g) d (mb_96 g).2 (0, [(0, .ref o)], [], M) _
  refine ml_blk 2 (S' := (2, [(0, .ref o)], [.ref o, .ref o], M)) rfl ?_
  refine ml_get (S' := (5, [(0, .ref o)], [.int y9, .ref o], M)) rfl hc9 rfl ?_
  refine ml_blk 3 (S' := (9, [(0, .ref o)], [.int 4, .int (y9 &&& (-4)), .ref o], M)) rfl ?_
  refine ml_st (S' := (10, [(0, .ref o)], [.int ((y9 &&& (-4)) + 4), .ref o], M)) rfl rfl rfl ?_
  refine tp_put rfl hS.1 hY0 (by decide) rfl (⟨_, rfl⟩) rfl rfl (fun M1 hS2 f3 => ?_)
  have hS4 := hS.put hS2 f3 (by simp)
  have g5 := f3.2.1 2 _ (by decide) hc2
  have g6 := f3.2.1 9 _ (by decide) hc9
  show ml _ _ _ (13, [(0, .ref o)], [], M1) _
  refine ml_st (S' := (14, [(0, .ref o)], [.ref o], M1)) rfl rfl rfl ?_
  refine ml_get (S' := (17, [(0, .ref o)], [.int y9], M1)) rfl g6 rfl ?_
  refine ml_blk 2 (S' := (19, [(0, .ref o)], [.int (y9 + 1)], M1)) rfl ?_
  refine ml_st (S' := (20, [(0, .ref o), (1, .int (y9 + 1))], [], M1)) rfl rfl rfl ?_
  have L_20 : ∀ (n_20 : Nat) (i20_1 : Int32), (2147483648 - i20_1.toInt).toNat ≤ n_20 → ml (mT g) d (mb_96 g).2 (20, [(0, .ref o), (1, .int i20_1)], [], M1) (qS g Y o k y9 M) := by
    intro n_20
    induction n_20 with
    | zero => intro i20_1 hn; exact (loop_zero hn).elim
    | succ n_20 ih_20 =>
      intro i20_1 hn_20
      refine ml_blk 2 (S' := (22, [(0, .ref o), (1, .int i20_1)], [.ref o, .int i20_1], M1)) rfl ?_
      refine ml_get (S' := (25, [(0, .ref o), (1, .int i20_1)], [.int ((y9 &&& (-4)) + 4), .int i20_1], M1)) rfl f3.2.2.1 rfl ?_
      refine ml_if2 (S1 := (44, [(0, .ref o), (1, .int i20_1)], [], M1)) (S2 := (28, [(0, .ref o), (1, .int i20_1)], [], M1)) rfl rfl rfl (fun c_25 => ?_) (fun c_25 => ?_)
      · have c_25 : ((y9 &&& (-4)) + 4) ≤ i20_1 := of_decide_eq_true c_25
        refine ml_st (S' := (45, [(0, .ref o), (1, .int i20_1)], [.ref o], M1)) rfl rfl rfl ?_
        refine tg_int rfl hS4.1.1 hY0 (by decide) rfl (fun u7 g8 => ?_)
        show ml _ _ _ (48, [(0, .ref o), (1, .int i20_1)], [.int u7], M1) _
        refine ml_st (S' := (51, [(0, .ref o), (1, .int i20_1)], [.int 170, .int u7], M1)) rfl rfl rfl ?_
        refine ml_if2 (S1 := (61, [(0, .ref o), (1, .int i20_1)], [], M1)) (S2 := (54, [(0, .ref o), (1, .int i20_1)], [], M1)) rfl rfl rfl (fun c_51 => ?_) (fun c_51 => ?_)
        · have c_51 : ¬ u7 = 170 := of_decide_eq_true c_51
          refine ml_st (S' := (62, [(0, .ref o), (1, .int i20_1)], [.ref o], M1)) rfl rfl rfl ?_
          refine ml_call (a := [.ref o]) (rest := []) rfl (okc_t rfl rfl rfl hS4.1.1 hY0 (by decide)) rfl rfl (ti_isLookupTaken hS4.1.1 hY0 hY1 g5 g6 f3.2.2.1 (hk) (hcl) (h0) (hp) ((pad4 h0 (by omega)).1) ((pad4 h0 (by omega)).2) (by omega)) (fun v9 M10 h11 => ?_)
          obtain ⟨⟨u12, rfl, z13⟩, h11⟩ := h11
          have hS14 := hS4.tr h11 (by simp)
          show ml _ _ _ (65, [], [.int u12], M10) _
          exact ml_ret rfl (r_z (qS_z z13)) (⟨⟨_, rfl, z13⟩, hS14⟩)
        · have c_51 : ¬ (¬ u7 = 170) := of_decide_eq_false c_51
          refine ml_st (S' := (55, [(0, .ref o), (1, .int i20_1)], [.ref o], M1)) rfl rfl rfl ?_
          refine ml_call (a := [.ref o]) (rest := []) rfl (okc_t rfl rfl rfl hS4.1.1 hY0 (by decide)) rfl rfl (ti_isTableTaken hS4.1.1 hY0 hY1 g5 g6 f3.2.2.1 (hk) (hcl) (h0) (hp) ((pad4 h0 (by omega)).1) ((pad4 h0 (by omega)).2) (by omega)) (fun v15 M16 h17 => ?_)
          obtain ⟨⟨u18, rfl, z19⟩, h17⟩ := h17
          have hS20 := hS4.tr h17 (by simp)
          show ml _ _ _ (58, [(0, .ref o), (1, .int i20_1)], [.int u18], M16) _
          refine ml_st (S' := (65, [], [.int u18], M16)) rfl rfl rfl ?_
          exact ml_ret rfl (r_z (qS_z z19)) (⟨⟨_, rfl, z19⟩, hS20⟩)
      · have c_25 : ¬ (((y9 &&& (-4)) + 4) ≤ i20_1) := of_decide_eq_false c_25
        refine ml_blk 2 (S' := (30, [(0, .ref o), (1, .int i20_1)], [.int i20_1, .ref o], M1)) rfl ?_
        refine ml_call (a := [.ref o, .int i20_1]) (rest := []) rfl (okc_t rfl rfl rfl hS4.1.1 hY0 (by decide)) rfl rfl (ti_u1 hS4.1.1 hY0 hY1 (by omega)) (fun v21 M22 h23 => ?_)
        obtain ⟨⟨u24, rfl⟩, h23⟩ := h23
        rw [h23]
        show ml _ _ _ (33, [(0, .ref o), (1, .int i20_1)], [.int u24], M1) _
        refine ml_if (S1 := (38, [(0, .ref o), (1, .int i20_1)], [], M1)) (S2 := (36, [(0, .ref o), (1, .int i20_1)], [], M1)) rfl rfl rfl (fun c_33 => ?_) (fun c_33 => ?_)
        · have c_33 : u24 = 0 := of_decide_eq_true c_33
          refine ml_st (S' := (41, [(1, .int (i20_1 + 1)), (0, .ref o)], [], M1)) rfl rfl rfl ?_
          refine ml_st (S' := (20, [(0, .ref o), (1, .int (i20_1 + 1))], [], M1)) rfl rfl rfl ?_
          exact ih_20 (i20_1 + 1) (loop_inc (Int32.not_le.mp c_25) hn_20) 
        · have c_33 : ¬ (u24 = 0) := of_decide_eq_false c_33
          refine ml_st (S' := (37, [(0, .ref o), (1, .int i20_1)], [.int 0], M1)) rfl rfl rfl ?_
          exact ml_ret rfl (r_z (Or.inl rfl)) (⟨⟨_, rfl, Or.inl rfl⟩, hS4⟩)
  exact L_20 _ (y9 + 1) (Nat.le_refl _) 
set_option maxHeartbeats 2000000 in
theorem ti_isTakenApart {g : xe_G} {M : mi_H} {Y : yT} {o b k da n : Nat} {x1 : Int32}  (hW : WF g Y M) (hY0 : Y.1 o = some (5, [b, k])) (hY1 : Y.1 b = some (1, [da, n])) {d : Nat} (hd : 6 ≤ d) : mt (mT g) d 98 [.ref o, .int x1] M (qS g Y o k x1 M) := by
  obtain ⟨d, rfl⟩ : ∃ e, d = e + 1 := ⟨d - 1, by omega⟩
  have hS : sf g Y [o] M M := sf.rf hW
  refine mt_in (b := mb_98 g) rfl rfl ?_
  show ml (mT g) d (mb_98 g).2 (0, [(0, .ref o), (1, .int x1)], [], M) _
  obtain ⟨hk, cl, hc2, -, hcl⟩ := hW.inst hY0
  refine ml_blk 2 (S' := (2, [(0, .ref o), (1, .int x1)], [.int x1, .ref o], M)) rfl ?_
  refine tp_put rfl hS.1 hY0 (by decide) rfl (⟨_, rfl⟩) rfl rfl (fun M1 hS2 f3 => ?_)
  have hS4 := hS.put hS2 f3 (by simp)
  have g5 := f3.2.1 2 _ (by decide) hc2
  show ml _ _ _ (5, [(0, .ref o), (1, .int x1)], [], M1) _
  refine ml_blk 3 (S' := (8, [(0, .ref o), (1, .int x1)], [.int x1, .ref o, .ref o], M1)) rfl ?_
  refine ml_call (a := [.ref o, .int x1]) (rest := [.ref o]) rfl (okc_t rfl rfl rfl hS4.1.1 hY0 (by decide)) rfl rfl (ti_u1 hS4.1.1 hY0 hY1 (by omega)) (fun v6 M7 h8 => ?_)
  obtain ⟨⟨u9, rfl⟩, h8⟩ := h8
  rw [h8]
  show ml _ _ _ (11, [(0, .ref o), (1, .int x1)], [.int u9, .ref o], M1) _
  refine tp_put rfl hS4.1 hY0 (by decide) rfl (⟨_, rfl⟩) rfl rfl (fun M10 hS11 f12 => ?_)
  have hS13 := hS4.put hS11 f12 (by simp)
  have g14 := f12.2.1 2 _ (by decide) g5
  have g15 := f12.2.1 9 _ (by decide) f3.2.2.1
  show ml _ _ _ (14, [(0, .ref o), (1, .int x1)], [], M10) _
  refine ml_blk 2 (S' := (16, [(0, .ref o), (1, .int x1)], [.int 1, .ref o], M10)) rfl ?_
  refine tp_put rfl hS13.1 hY0 (by decide) rfl (⟨_, rfl⟩) rfl rfl (fun M16 hS17 f18 => ?_)
  have hS19 := hS13.put hS17 f18 (by simp)
  have g20 := f18.2.1 2 _ (by decide) g14
  have g21 := f18.2.1 3 _ (by decide) f12.2.2.1
  have g22 := f18.2.1 9 _ (by decide) g15
  show ml _ _ _ (19, [(0, .ref o), (1, .int x1)], [], M16) _
  refine ml_blk 2 (S' := (21, [(0, .ref o), (1, .int x1)], [.int 0, .ref o], M16)) rfl ?_
  refine tp_put rfl hS19.1 hY0 (by decide) rfl (⟨_, rfl⟩) rfl rfl (fun M23 hS24 f25 => ?_)
  have hS26 := hS19.put hS24 f25 (by simp)
  have g27 := f25.2.1 2 _ (by decide) g20
  have g28 := f25.2.1 3 _ (by decide) g21
  have g29 := f25.2.1 9 _ (by decide) g22
  have g30 := f25.2.1 4 _ (by decide) f18.2.2.1
  show ml _ _ _ (24, [(0, .ref o), (1, .int x1)], [], M23) _
  refine ml_blk 2 (S' := (26, [(0, .ref o), (1, .int x1)], [.int 0, .ref o], M23)) rfl ?_
  refine tp_put rfl hS26.1 hY0 (by decide) rfl (⟨_, rfl⟩) rfl rfl (fun M31 hS32 f33 => ?_)
  have hS34 := hS26.put hS32 f33 (by simp)
  have g35 := f33.2.1 2 _ (by decide) g27
  have g36 := f33.2.1 3 _ (by decide) g28
  have g37 := f33.2.1 9 _ (by decide) g29
  have g38 := f33.2.1 4 _ (by decide) g30
  show ml _ _ _ (29, [(0, .ref o), (1, .int x1)], [], M31) _
  refine ml_blk 2 (S' := (31, [(0, .ref o), (1, .int x1)], [.int 0, .ref o], M31)) rfl ?_
  refine tp_put rfl hS34.1 hY0 (by decide) rfl (⟨_, rfl⟩) rfl rfl (fun M39 hS40 f41 => ?_)
  have hS42 := hS34.put hS40 f41 (by simp)
  have g43 := f41.2.1 2 _ (by decide) g35
  have g44 := f41.2.1 3 _ (by decide) g36
  have g45 := f41.2.1 9 _ (by decide) g37
  have g46 := f41.2.1 4 _ (by decide) g38
  show ml _ _ _ (34, [(0, .ref o), (1, .int x1)], [], M39) _
  refine ml_blk 2 (S' := (36, [(0, .ref o), (1, .int x1)], [.int 0, .ref o], M39)) rfl ?_
  refine tp_put rfl hS42.1 hY0 (by decide) rfl (⟨_, rfl⟩) rfl rfl (fun M47 hS48 f49 => ?_)
  have hS50 := hS42.put hS48 f49 (by simp)
  have g51 := f49.2.1 2 _ (by decide) g43
  have g52 := f49.2.1 3 _ (by decide) g44
  have g53 := f49.2.1 9 _ (by decide) g45
  have g54 := f49.2.1 4 _ (by decide) g46
  show ml _ _ _ (39, [(0, .ref o), (1, .int x1)], [], M47) _
  refine ml_st (S' := (40, [(0, .ref o), (1, .int x1)], [.int x1], M47)) rfl rfl rfl ?_
  refine ml_if (S1 := (61, [], [], M47)) (S2 := (43, [(0, .ref o), (1, .int x1)], [], M47)) rfl rfl rfl (fun c_40 => ?_) (fun c_40 => ?_)
  · have c_40 : x1 < 0 := of_decide_eq_true c_40
    refine ml_st (S' := (62, [], [.int 0], M47)) rfl rfl rfl ?_
    exact ml_ret rfl (r_z (Or.inl rfl)) (⟨⟨_, rfl, Or.inl rfl⟩, hS50⟩)
  · have c_40 : ¬ (x1 < 0) := of_decide_eq_false c_40
    refine ml_blk 2 (S' := (45, [(0, .ref o), (1, .int x1)], [.ref o, .int x1], M47)) rfl ?_
    refine ml_get (S' := (48, [(0, .ref o), (1, .int x1)], [.int cl, .int x1], M47)) rfl g51 rfl ?_
    refine ml_if2 (S1 := (61, [], [], M47)) (S2 := (51, [(0, .ref o), (1, .int x1)], [], M47)) rfl rfl rfl (fun c_48 => ?_) (fun c_48 => ?_)
    · have c_48 : cl ≤ x1 := of_decide_eq_true c_48
      refine ml_st (S' := (62, [], [.int 0], M47)) rfl rfl rfl ?_
      exact ml_ret rfl (r_z (Or.inl rfl)) (⟨⟨_, rfl, Or.inl rfl⟩, hS50⟩)
    · have c_48 : ¬ (cl ≤ x1) := of_decide_eq_false c_48
      refine ml_st (S' := (52, [(0, .ref o), (1, .int x1)], [.ref o], M47)) rfl rfl rfl ?_
      refine ml_get (S' := (55, [(0, .ref o), (1, .int x1)], [.int u9], M47)) rfl g52 rfl ?_
      refine ml_st (S' := (58, [(0, .ref o), (1, .int x1)], [.int 201, .int u9], M47)) rfl rfl rfl ?_
      refine ml_if2 (S1 := (63, [(0, .ref o), (1, .int x1)], [], M47)) (S2 := (61, [], [], M47)) rfl rfl rfl (fun c_58 => ?_) (fun c_58 => ?_)
      · have c_58 : u9 ≤ 201 := of_decide_eq_true c_58
        refine ml_st (S' := (64, [(0, .ref o), (1, .int x1)], [.ref o], M47)) rfl rfl rfl ?_
        refine ml_call (a := [.ref o]) (rest := []) rfl (okc_t rfl rfl rfl hS50.1.1 hY0 (by decide)) rfl rfl (ti_isSwitch hS50.1.1 hY0 hY1 (by omega)) (fun v55 M56 h57 => ?_)
        obtain ⟨⟨u58, rfl, z59⟩, h57⟩ := h57
        rw [h57]
        show ml _ _ _ (67, [(0, .ref o), (1, .int x1)], [.int u58], M47) _
        refine ml_if (S1 := (75, [(0, .ref o), (1, .int x1)], [], M47)) (S2 := (70, [(0, .ref o), (1, .int x1)], [], M47)) rfl rfl rfl (fun c_67 => ?_) (fun c_67 => ?_)
        · have c_67 : u58 = 0 := of_decide_eq_true c_67
          refine ml_st (S' := (76, [(0, .ref o), (1, .int x1)], [.ref o], M47)) rfl rfl rfl ?_
          refine ml_get (S' := (79, [(0, .ref o), (1, .int x1)], [.int u9], M47)) rfl g52 rfl ?_
          refine ml_st (S' := (82, [(0, .ref o), (1, .int x1)], [.int 196, .int u9], M47)) rfl rfl rfl ?_
          refine ml_if2 (S1 := (90, [(0, .ref o), (1, .int x1)], [], M47)) (S2 := (85, [(0, .ref o), (1, .int x1)], [], M47)) rfl rfl rfl (fun c_82 => ?_) (fun c_82 => ?_)
          · have c_82 : ¬ u9 = 196 := of_decide_eq_true c_82
            refine ml_blk 2 (S' := (92, [(0, .ref o), (1, .int x1)], [.ref o, .ref o], M47)) rfl ?_
            refine ml_get (S' := (95, [(0, .ref o), (1, .int x1)], [.int u9, .ref o], M47)) rfl g52 rfl ?_
            refine ml_call (a := [.int u9]) (rest := [.ref o]) rfl (rfl) rfl rfl (ti_sizeOf hS50.1.1  (by omega)) (fun v60 M61 h62 => ?_)
            obtain ⟨⟨u63, rfl, z64⟩, h62⟩ := h62
            rw [h62]
            show ml _ _ _ (98, [(0, .ref o), (1, .int x1)], [.int u63, .ref o], M47) _
            refine tp_put rfl hS50.1 hY0 (by decide) rfl (⟨_, rfl⟩) rfl rfl (fun M65 hS66 f67 => ?_)
            have hS68 := hS50.put hS66 f67 (by simp)
            have g69 := f67.2.1 2 _ (by decide) g51
            have g70 := f67.2.1 3 _ (by decide) g52
            have g71 := f67.2.1 9 _ (by decide) g53
            show ml _ _ _ (101, [(0, .ref o), (1, .int x1)], [], M65) _
            refine ml_st (S' := (102, [(0, .ref o), (1, .int x1)], [.ref o], M65)) rfl rfl rfl ?_
            refine ml_get (S' := (105, [(0, .ref o), (1, .int x1)], [.int u63], M65)) rfl f67.2.2.1 rfl ?_
            refine ml_st (S' := (106, [(0, .ref o), (1, .int x1)], [.ref o, .int u63], M65)) rfl rfl rfl ?_
            refine ml_get (S' := (109, [(0, .ref o), (1, .int x1)], [.int cl, .int u63], M65)) rfl g69 rfl ?_
            refine ml_st (S' := (110, [(0, .ref o), (1, .int x1)], [.ref o, .int cl, .int u63], M65)) rfl rfl rfl ?_
            refine ml_get (S' := (113, [(0, .ref o), (1, .int x1)], [.int x1, .int cl, .int u63], M65)) rfl g71 rfl ?_
            refine ml_st (S' := (114, [(0, .ref o), (1, .int x1)], [.int (cl - x1), .int u63], M65)) rfl rfl rfl ?_
            refine ml_if2 (S1 := (128, [], [], M65)) (S2 := (117, [(0, .ref o), (1, .int x1)], [], M65)) rfl rfl rfl (fun c_114 => ?_) (fun c_114 => ?_)
            · have c_114 : (cl - x1) < u63 := of_decide_eq_true c_114
              refine ml_st (S' := (129, [], [.int 0], M65)) rfl rfl rfl ?_
              exact ml_ret rfl (r_z (Or.inl rfl)) (⟨⟨_, rfl, Or.inl rfl⟩, hS68⟩)
            · have c_114 : ¬ ((cl - x1) < u63) := of_decide_eq_false c_114
              refine ml_st (S' := (118, [(0, .ref o), (1, .int x1)], [.ref o], M65)) rfl rfl rfl ?_
              refine ml_call (a := [.ref o]) (rest := []) rfl (okc_t rfl rfl rfl hS68.1.1 hY0 (by decide)) rfl rfl (ti_areOperandsTaken hS68.1.1 hY0 hY1 (by omega)) (fun v72 M73 h74 => ?_)
              obtain ⟨⟨u75, rfl, z76⟩, h74⟩ := h74
              have g77 := h74.2 2 _ rfl g69
              have g78 := h74.2 9 _ rfl g71
              have g79 := h74.2 4 _ rfl f67.2.2.1
              have hS80 := hS68.tr h74.1 (by simp)
              show ml _ _ _ (121, [(0, .ref o), (1, .int x1)], [.int u75], M73) _
              refine ml_if (S1 := (128, [], [], M73)) (S2 := (124, [(0, .ref o), (1, .int x1)], [], M73)) rfl rfl rfl (fun c_121 => ?_) (fun c_121 => ?_)
              · have c_121 : u75 = 0 := of_decide_eq_true c_121
                refine ml_st (S' := (129, [], [.int 0], M73)) rfl rfl rfl ?_
                exact ml_ret rfl (r_z (Or.inl rfl)) (⟨⟨_, rfl, Or.inl rfl⟩, hS80⟩)
              · have c_121 : ¬ (u75 = 0) := of_decide_eq_false c_121
                refine ml_st (S' := (125, [(0, .ref o), (1, .int x1)], [.int 1], M73)) rfl rfl rfl ?_
                refine ml_st (S' := (129, [], [.int 1], M73)) rfl rfl rfl ?_
                exact ml_ret rfl (r_z (Or.inr rfl)) (⟨⟨_, rfl, Or.inr ⟨rfl, _, g79, z64, sz_in hk hcl (nneg c_40) (i_nle c_48) (Int32.not_lt.mp c_114)⟩⟩, hS80⟩)
          · have c_82 : ¬ (¬ u9 = 196) := of_decide_eq_false c_82
            refine ml_st (S' := (86, [(0, .ref o), (1, .int x1)], [.ref o], M47)) rfl rfl rfl ?_
            refine ml_call (a := [.ref o]) (rest := []) rfl (okc_t rfl rfl rfl hS50.1.1 hY0 (by decide)) rfl rfl (ti_isWideTaken hS50.1.1 hY0 hY1 g51 g53 (hk) (hcl) (nneg c_40) (i_nle c_48) (by omega)) (fun v81 M82 h83 => ?_)
            obtain ⟨⟨u84, rfl, z85⟩, h83⟩ := h83
            have hS86 := hS50.tr h83 (by simp)
            show ml _ _ _ (89, [(0, .ref o), (1, .int x1)], [.int u84], M82) _
            exact ml_ret rfl (r_z (qS_z z85)) (⟨⟨_, rfl, z85⟩, hS86⟩)
        · have c_67 : ¬ (u58 = 0) := of_decide_eq_false c_67
          refine ml_st (S' := (71, [(0, .ref o), (1, .int x1)], [.ref o], M47)) rfl rfl rfl ?_
          refine ml_call (a := [.ref o]) (rest := []) rfl (okc_t rfl rfl rfl hS50.1.1 hY0 (by decide)) rfl rfl (ti_isSwitchTaken hS50.1.1 hY0 hY1 g51 g53 (hk) (hcl) (nneg c_40) (i_nle c_48) (by omega)) (fun v87 M88 h89 => ?_)
          obtain ⟨⟨u90, rfl, z91⟩, h89⟩ := h89
          have hS92 := hS50.tr h89 (by simp)
          show ml _ _ _ (74, [(0, .ref o), (1, .int x1)], [.int u90], M88) _
          exact ml_ret rfl (r_z (qS_z z91)) (⟨⟨_, rfl, z91⟩, hS92⟩)
      · have c_58 : ¬ (u9 ≤ 201) := of_decide_eq_false c_58
        refine ml_st (S' := (62, [], [.int 0], M47)) rfl rfl rfl ?_
        exact ml_ret rfl (r_z (Or.inl rfl)) (⟨⟨_, rfl, Or.inl rfl⟩, hS50⟩)
