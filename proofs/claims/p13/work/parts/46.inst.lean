section
/-! one instruction (laid by wip/p2/c46.py) -/
set_option maxHeartbeats 2000000 in
theorem ti_u1 {g : xe_G} {M : mi_H} {Y : yT} {o b k da n : Nat} {x1 : Int32}  (hW : WF g Y M) (hY0 : Y.1 o = some (5, [b, k])) (hY1 : Y.1 b = some (1, [da, n])) {d : Nat} (hd : 2 ≤ d) : mt (mT g) d 104 [.ref o, .int x1] M (pI M) := by
  obtain ⟨d, rfl⟩ : ∃ e, d = e + 1 := ⟨d - 1, by omega⟩
  have hS : st g Y M M := st.rf hW
  refine mt_in (b := mb_104 g) rfl rfl ?_
  show ml (mT g) d (mb_104 g).2 (0, [(0, .ref o), (1, .int x1)], [], M) _
  refine ml_st (S' := (1, [(0, .ref o), (1, .int x1)], [.ref o], M)) rfl rfl rfl ?_
  refine tg_ref (S' := (4, [(0, .ref o), (1, .int x1)], [.ref b], M)) rfl hS.1 hY0 (by decide) rfl rfl ?_
  refine ml_st (S' := (5, [(0, .ref o), (1, .int x1)], [.ref o, .ref b], M)) rfl rfl rfl ?_
  refine tg_int rfl hS.1 hY0 (by decide) rfl (fun u1 g2 => ?_)
  show ml _ _ _ (8, [(0, .ref o), (1, .int x1)], [.int u1, .ref b], M) _
  refine ml_blk 2 (S' := (10, [(0, .ref o), (1, .int x1)], [.int (u1 + x1), .ref b], M)) rfl ?_
  refine ml_call (a := [.ref b, .int (u1 + x1)]) (rest := []) rfl (okc_t rfl rfl rfl hS.1 hY1 (by decide)) rfl rfl (tq_u1 hS.1 hY1 (by omega)) (fun v3 M4 h5 => ?_)
  obtain ⟨⟨u6, rfl⟩, h5⟩ := h5
  rw [h5]
  show ml _ _ _ (13, [(0, .ref o), (1, .int x1)], [.int u6], M) _
  exact ml_ret rfl (rfl) (⟨⟨_, rfl⟩, rfl⟩)
set_option maxHeartbeats 2000000 in
theorem ti_u2 {g : xe_G} {M : mi_H} {Y : yT} {o b k da n : Nat} {x1 : Int32}  (hW : WF g Y M) (hY0 : Y.1 o = some (5, [b, k])) (hY1 : Y.1 b = some (1, [da, n])) {d : Nat} (hd : 2 ≤ d) : mt (mT g) d 105 [.ref o, .int x1] M (pI M) := by
  obtain ⟨d, rfl⟩ : ∃ e, d = e + 1 := ⟨d - 1, by omega⟩
  have hS : st g Y M M := st.rf hW
  refine mt_in (b := mb_105 g) rfl rfl ?_
  show ml (mT g) d (mb_105 g).2 (0, [(0, .ref o), (1, .int x1)], [], M) _
  refine ml_st (S' := (1, [(0, .ref o), (1, .int x1)], [.ref o], M)) rfl rfl rfl ?_
  refine tg_ref (S' := (4, [(0, .ref o), (1, .int x1)], [.ref b], M)) rfl hS.1 hY0 (by decide) rfl rfl ?_
  refine ml_st (S' := (5, [(0, .ref o), (1, .int x1)], [.ref o, .ref b], M)) rfl rfl rfl ?_
  refine tg_int rfl hS.1 hY0 (by decide) rfl (fun u1 g2 => ?_)
  show ml _ _ _ (8, [(0, .ref o), (1, .int x1)], [.int u1, .ref b], M) _
  refine ml_blk 2 (S' := (10, [(0, .ref o), (1, .int x1)], [.int (u1 + x1), .ref b], M)) rfl ?_
  refine ml_call (a := [.ref b, .int (u1 + x1)]) (rest := []) rfl (okc_t rfl rfl rfl hS.1 hY1 (by decide)) rfl rfl (tq_u2 hS.1 hY1 (by omega)) (fun v3 M4 h5 => ?_)
  obtain ⟨⟨u6, rfl⟩, h5⟩ := h5
  rw [h5]
  show ml _ _ _ (13, [(0, .ref o), (1, .int x1)], [.int u6], M) _
  exact ml_ret rfl (rfl) (⟨⟨_, rfl⟩, rfl⟩)
set_option maxHeartbeats 2000000 in
theorem ti_s4 {g : xe_G} {M : mi_H} {Y : yT} {o b k da n : Nat} {x1 : Int32}  (hW : WF g Y M) (hY0 : Y.1 o = some (5, [b, k])) (hY1 : Y.1 b = some (1, [da, n])) {d : Nat} (hd : 2 ≤ d) : mt (mT g) d 101 [.ref o, .int x1] M (pI M) := by
  obtain ⟨d, rfl⟩ : ∃ e, d = e + 1 := ⟨d - 1, by omega⟩
  have hS : st g Y M M := st.rf hW
  refine mt_in (b := mb_101 g) rfl rfl ?_
  show ml (mT g) d (mb_101 g).2 (0, [(0, .ref o), (1, .int x1)], [], M) _
  refine ml_st (S' := (1, [(0, .ref o), (1, .int x1)], [.ref o], M)) rfl rfl rfl ?_
  refine tg_ref (S' := (4, [(0, .ref o), (1, .int x1)], [.ref b], M)) rfl hS.1 hY0 (by decide) rfl rfl ?_
  refine ml_st (S' := (5, [(0, .ref o), (1, .int x1)], [.ref o, .ref b], M)) rfl rfl rfl ?_
  refine tg_int rfl hS.1 hY0 (by decide) rfl (fun u1 g2 => ?_)
  show ml _ _ _ (8, [(0, .ref o), (1, .int x1)], [.int u1, .ref b], M) _
  refine ml_blk 2 (S' := (10, [(0, .ref o), (1, .int x1)], [.int (u1 + x1), .ref b], M)) rfl ?_
  refine ml_call (a := [.ref b, .int (u1 + x1)]) (rest := []) rfl (okc_t rfl rfl rfl hS.1 hY1 (by decide)) rfl rfl (tq_u4 hS.1 hY1 (by omega)) (fun v3 M4 h5 => ?_)
  obtain ⟨⟨u6, rfl⟩, h5⟩ := h5
  rw [h5]
  show ml _ _ _ (13, [(0, .ref o), (1, .int x1)], [.int u6], M) _
  exact ml_ret rfl (rfl) (⟨⟨_, rfl⟩, rfl⟩)
set_option maxHeartbeats 2000000 in
theorem ti_isSwitch {g : xe_G} {M : mi_H} {Y : yT} {o b k da n : Nat}  (hW : WF g Y M) (hY0 : Y.1 o = some (5, [b, k])) (hY1 : Y.1 b = some (1, [da, n])) {d : Nat} (hd : 1 ≤ d) : mt (mT g) d 95 [.ref o] M (pZ M) := by
  obtain ⟨d, rfl⟩ : ∃ e, d = e + 1 := ⟨d - 1, by omega⟩
  have hS : st g Y M M := st.rf hW
  refine mt_in (b := mb_95 g) rfl rfl ?_
  show ml (mT g) d (mb_95 g).2 (0, [(0, .ref o)], [], M) _
  refine ml_st (S' := (1, [(0, .ref o)], [.ref o], M)) rfl rfl rfl ?_
  refine tg_int rfl hS.1 hY0 (by decide) rfl (fun u1 g2 => ?_)
  show ml _ _ _ (4, [(0, .ref o)], [.int u1], M) _
  refine ml_st (S' := (7, [(0, .ref o)], [.int 170, .int u1], M)) rfl rfl rfl ?_
  refine ml_if2 (S1 := (20, [], [], M)) (S2 := (10, [(0, .ref o)], [], M)) rfl rfl rfl (fun c_7 => ?_) (fun c_7 => ?_)
  · have c_7 : u1 = 170 := of_decide_eq_true c_7
    refine ml_st (S' := (21, [], [.int 1], M)) rfl rfl rfl ?_
    refine ml_st (S' := (25, [], [.int 1], M)) rfl rfl rfl ?_
    exact ml_ret rfl (r_z (Or.inr rfl)) (⟨⟨_, rfl, Or.inr rfl⟩, rfl⟩)
  · have c_7 : ¬ (u1 = 170) := of_decide_eq_false c_7
    refine ml_st (S' := (11, [(0, .ref o)], [.ref o], M)) rfl rfl rfl ?_
    refine ml_get (S' := (14, [(0, .ref o)], [.int u1], M)) rfl g2 rfl ?_
    refine ml_st (S' := (17, [(0, .ref o)], [.int 171, .int u1], M)) rfl rfl rfl ?_
    refine ml_if2 (S1 := (24, [(0, .ref o)], [], M)) (S2 := (20, [], [], M)) rfl rfl rfl (fun c_17 => ?_) (fun c_17 => ?_)
    · have c_17 : ¬ u1 = 171 := of_decide_eq_true c_17
      refine ml_st (S' := (25, [], [.int 0], M)) rfl rfl rfl ?_
      exact ml_ret rfl (r_z (Or.inl rfl)) (⟨⟨_, rfl, Or.inl rfl⟩, rfl⟩)
    · have c_17 : ¬ (¬ u1 = 171) := of_decide_eq_false c_17
      refine ml_st (S' := (21, [], [.int 1], M)) rfl rfl rfl ?_
      refine ml_st (S' := (25, [], [.int 1], M)) rfl rfl rfl ?_
      exact ml_ret rfl (r_z (Or.inr rfl)) (⟨⟨_, rfl, Or.inr rfl⟩, rfl⟩)
set_option maxHeartbeats 2000000 in
theorem ti_isJump {g : xe_G} {M : mi_H} {Y : yT} {o b k da n : Nat}  (hW : WF g Y M) (hY0 : Y.1 o = some (5, [b, k])) (hY1 : Y.1 b = some (1, [da, n])) {d : Nat} (hd : 2 ≤ d) : mt (mT g) d 89 [.ref o] M (pZ M) := by
  obtain ⟨d, rfl⟩ : ∃ e, d = e + 1 := ⟨d - 1, by omega⟩
  have hS : st g Y M M := st.rf hW
  refine mt_in (b := mb_89 g) rfl rfl ?_
  show ml (mT g) d (mb_89 g).2 (0, [(0, .ref o)], [], M) _
  refine ml_st (S' := (1, [(0, .ref o)], [.ref o], M)) rfl rfl rfl ?_
  refine tg_int rfl hS.1 hY0 (by decide) rfl (fun u1 g2 => ?_)
  show ml _ _ _ (4, [(0, .ref o)], [.int u1], M) _
  refine ml_if (S1 := (18, [], [], M)) (S2 := (7, [(0, .ref o)], [], M)) rfl rfl rfl (fun c_4 => ?_) (fun c_4 => ?_)
  · have c_4 : u1 ≤ 0 := of_decide_eq_true c_4
    refine ml_st (S' := (19, [], [.int 0], M)) rfl rfl rfl ?_
    exact ml_ret rfl (r_z (Or.inl rfl)) (⟨⟨_, rfl, Or.inl rfl⟩, rfl⟩)
  · have c_4 : ¬ (u1 ≤ 0) := of_decide_eq_false c_4
    refine ml_st (S' := (8, [(0, .ref o)], [.ref o], M)) rfl rfl rfl ?_
    refine ml_call (a := [.ref o]) (rest := []) rfl (okc_t rfl rfl rfl hS.1 hY0 (by decide)) rfl rfl (ti_isSwitch hS.1 hY0 hY1 (by omega)) (fun v3 M4 h5 => ?_)
    obtain ⟨⟨u6, rfl, z7⟩, h5⟩ := h5
    rw [h5]
    show ml _ _ _ (11, [(0, .ref o)], [.int u6], M) _
    refine ml_if (S1 := (18, [], [], M)) (S2 := (14, [(0, .ref o)], [], M)) rfl rfl rfl (fun c_11 => ?_) (fun c_11 => ?_)
    · have c_11 : ¬ u6 = 0 := of_decide_eq_true c_11
      refine ml_st (S' := (19, [], [.int 0], M)) rfl rfl rfl ?_
      exact ml_ret rfl (r_z (Or.inl rfl)) (⟨⟨_, rfl, Or.inl rfl⟩, rfl⟩)
    · have c_11 : ¬ (¬ u6 = 0) := of_decide_eq_false c_11
      refine ml_st (S' := (15, [(0, .ref o)], [.int 1], M)) rfl rfl rfl ?_
      refine ml_st (S' := (19, [], [.int 1], M)) rfl rfl rfl ?_
      exact ml_ret rfl (r_z (Or.inr rfl)) (⟨⟨_, rfl, Or.inr rfl⟩, rfl⟩)
set_option maxHeartbeats 2000000 in
theorem ti_keyOf {g : xe_G} {M : mi_H} {Y : yT} {o b k da n : Nat} {x1 : Int32}  (hW : WF g Y M) (hY0 : Y.1 o = some (5, [b, k])) (hY1 : Y.1 b = some (1, [da, n])) {d : Nat} (hd : 3 ≤ d) : mt (mT g) d 100 [.ref o, .int x1] M (pI M) := by
  obtain ⟨d, rfl⟩ : ∃ e, d = e + 1 := ⟨d - 1, by omega⟩
  have hS : st g Y M M := st.rf hW
  refine mt_in (b := mb_100 g) rfl rfl ?_
  show ml (mT g) d (mb_100 g).2 (0, [(0, .ref o), (1, .int x1)], [], M) _
  refine ml_st (S' := (1, [(0, .ref o), (1, .int x1)], [.int x1], M)) rfl rfl rfl ?_
  refine ml_if (S1 := (6, [(0, .ref o), (1, .int x1)], [], M)) (S2 := (4, [(0, .ref o), (1, .int x1)], [], M)) rfl rfl rfl (fun c_1 => ?_) (fun c_1 => ?_)
  · have c_1 : ¬ x1 = 0 := of_decide_eq_true c_1
    refine ml_st (S' := (7, [(0, .ref o), (1, .int x1)], [.ref o], M)) rfl rfl rfl ?_
    refine tg_int rfl hS.1 hY0 (by decide) rfl (fun u1 g2 => ?_)
    show ml _ _ _ (10, [(0, .ref o), (1, .int x1)], [.int u1], M) _
    refine ml_st (S' := (13, [(0, .ref o), (1, .int x1)], [.int 170, .int u1], M)) rfl rfl rfl ?_
    refine ml_if2 (S1 := (27, [(0, .ref o), (1, .int x1)], [], M)) (S2 := (16, [(0, .ref o), (1, .int x1)], [], M)) rfl rfl rfl (fun c_13 => ?_) (fun c_13 => ?_)
    · have c_13 : ¬ u1 = 170 := of_decide_eq_true c_13
      refine ml_blk 2 (S' := (29, [(0, .ref o), (1, .int x1)], [.ref o, .ref o], M)) rfl ?_
      refine tg_int rfl hS.1 hY0 (by decide) rfl (fun u3 g4 => ?_)
      show ml _ _ _ (32, [(0, .ref o), (1, .int x1)], [.int u3, .ref o], M) _
      refine ml_blk 3 (S' := (36, [(0, .ref o), (1, .int x1)], [.int (8 * x1), .int u3, .ref o], M)) rfl ?_
      refine ml_st (S' := (37, [(0, .ref o), (1, .int x1)], [.int (u3 + (8 * x1)), .ref o], M)) rfl rfl rfl ?_
      refine ml_call (a := [.ref o, .int (u3 + (8 * x1))]) (rest := []) rfl (okc_t rfl rfl rfl hS.1 hY0 (by decide)) rfl rfl (ti_s4 hS.1 hY0 hY1 (by omega)) (fun v5 M6 h7 => ?_)
      obtain ⟨⟨u8, rfl⟩, h7⟩ := h7
      rw [h7]
      show ml _ _ _ (40, [], [.int u8], M) _
      exact ml_ret rfl (rfl) (⟨⟨_, rfl⟩, rfl⟩)
    · have c_13 : ¬ (¬ u1 = 170) := of_decide_eq_false c_13
      refine ml_st (S' := (17, [(0, .ref o), (1, .int x1)], [.ref o], M)) rfl rfl rfl ?_
      refine tg_int rfl hS.1 hY0 (by decide) rfl (fun u9 g10 => ?_)
      show ml _ _ _ (20, [(0, .ref o), (1, .int x1)], [.int u9], M) _
      refine ml_blk 3 (S' := (23, [(0, .ref o), (1, .int x1)], [.int 1, .int (u9 + x1)], M)) rfl ?_
      refine ml_st (S' := (24, [(0, .ref o), (1, .int x1)], [.int ((u9 + x1) - 1)], M)) rfl rfl rfl ?_
      refine ml_st (S' := (40, [], [.int ((u9 + x1) - 1)], M)) rfl rfl rfl ?_
      exact ml_ret rfl (rfl) (⟨⟨_, rfl⟩, rfl⟩)
  · have c_1 : ¬ (¬ x1 = 0) := of_decide_eq_false c_1
    refine ml_st (S' := (5, [(0, .ref o), (1, .int x1)], [.int 0], M)) rfl rfl rfl ?_
    exact ml_ret rfl (rfl) (⟨⟨_, rfl⟩, rfl⟩)
set_option maxHeartbeats 2000000 in
theorem ti_target {g : xe_G} {M : mi_H} {Y : yT} {o b k da n : Nat} {x1 : Int32}  (hW : WF g Y M) (hY0 : Y.1 o = some (5, [b, k])) (hY1 : Y.1 b = some (1, [da, n])) {d : Nat} (hd : 3 ≤ d) : mt (mT g) d 103 [.ref o, .int x1] M (pL M) := by
  obtain ⟨d, rfl⟩ : ∃ e, d = e + 1 := ⟨d - 1, by omega⟩
  have hS : st g Y M M := st.rf hW
  refine mt_in (b := mb_103 g) rfl rfl ?_
  show ml (mT g) d (mb_103 g).2 (0, [(0, .ref o), (1, .int x1)], [], M) _
  refine ml_st (S' := (1, [(0, .ref o), (1, .int x1)], [.ref o], M)) rfl rfl rfl ?_
  refine ml_call (a := [.ref o]) (rest := []) rfl (okc_t rfl rfl rfl hS.1 hY0 (by decide)) rfl rfl (ti_isSwitch hS.1 hY0 hY1 (by omega)) (fun v1 M2 h3 => ?_)
  obtain ⟨⟨u4, rfl, z5⟩, h3⟩ := h3
  rw [h3]
  show ml _ _ _ (4, [(0, .ref o), (1, .int x1)], [.int u4], M) _
  refine ml_if (S1 := (19, [(0, .ref o), (1, .int x1)], [], M)) (S2 := (7, [(0, .ref o), (1, .int x1)], [], M)) rfl rfl rfl (fun c_4 => ?_) (fun c_4 => ?_)
  · have c_4 : ¬ u4 = 0 := of_decide_eq_true c_4
    refine ml_st (S' := (20, [(0, .ref o), (1, .int x1)], [.int x1], M)) rfl rfl rfl ?_
    refine ml_if (S1 := (39, [(0, .ref o), (1, .int x1)], [], M)) (S2 := (23, [(0, .ref o), (1, .int x1)], [], M)) rfl rfl rfl (fun c_20 => ?_) (fun c_20 => ?_)
    · have c_20 : ¬ x1 = 0 := of_decide_eq_true c_20
      refine ml_st (S' := (40, [(0, .ref o), (1, .int x1)], [.ref o], M)) rfl rfl rfl ?_
      refine tg_int rfl hS.1 hY0 (by decide) rfl (fun u6 g7 => ?_)
      show ml _ _ _ (43, [(0, .ref o), (1, .int x1)], [.int u6], M) _
      refine ml_blk 3 (S' := (46, [(0, .ref o), (1, .int x1)], [.ref o, .ref o, .long (Int32.toInt64 u6)], M)) rfl ?_
      refine tg_int rfl hS.1 hY0 (by decide) rfl (fun u8 g9 => ?_)
      show ml _ _ _ (49, [(0, .ref o), (1, .int x1)], [.int u8, .ref o, .long (Int32.toInt64 u6)], M) _
      refine ml_st (S' := (52, [(0, .ref o), (1, .int x1)], [.int 170, .int u8, .ref o, .long (Int32.toInt64 u6)], M)) rfl rfl rfl ?_
      refine ml_if2 (S1 := (69, [(0, .ref o), (1, .int x1)], [.ref o, .long (Int32.toInt64 u6)], M)) (S2 := (55, [(0, .ref o), (1, .int x1)], [.ref o, .long (Int32.toInt64 u6)], M)) rfl rfl rfl (fun c_52 => ?_) (fun c_52 => ?_)
      · have c_52 : ¬ u8 = 170 := of_decide_eq_true c_52
        refine ml_st (S' := (70, [(0, .ref o), (1, .int x1)], [.ref o, .ref o, .long (Int32.toInt64 u6)], M)) rfl rfl rfl ?_
        refine tg_int rfl hS.1 hY0 (by decide) rfl (fun u10 g11 => ?_)
        show ml _ _ _ (73, [(0, .ref o), (1, .int x1)], [.int u10, .ref o, .long (Int32.toInt64 u6)], M) _
        refine ml_blk 3 (S' := (77, [(0, .ref o), (1, .int x1)], [.int 8, .int (u10 + 4), .ref o, .long (Int32.toInt64 u6)], M)) rfl ?_
        refine ml_blk 3 (S' := (80, [], [.int ((u10 + 4) + (8 * x1)), .ref o, .long (Int32.toInt64 u6)], M)) rfl ?_
        refine ml_call (a := [.ref o, .int ((u10 + 4) + (8 * x1))]) (rest := [.long (Int32.toInt64 u6)]) rfl (okc_t rfl rfl rfl hS.1 hY0 (by decide)) rfl rfl (ti_s4 hS.1 hY0 hY1 (by omega)) (fun v12 M13 h14 => ?_)
        obtain ⟨⟨u15, rfl⟩, h14⟩ := h14
        rw [h14]
        show ml _ _ _ (83, [], [.int u15, .long (Int32.toInt64 u6)], M) _
        refine ml_blk 2 (S' := (85, [], [.long ((Int32.toInt64 u6) + (Int32.toInt64 u15))], M)) rfl ?_
        exact ml_ret rfl (rfl) (⟨⟨_, rfl⟩, rfl⟩)
      · have c_52 : ¬ (¬ u8 = 170) := of_decide_eq_false c_52
        refine ml_st (S' := (56, [(0, .ref o), (1, .int x1)], [.ref o, .ref o, .long (Int32.toInt64 u6)], M)) rfl rfl rfl ?_
        refine tg_int rfl hS.1 hY0 (by decide) rfl (fun u16 g17 => ?_)
        show ml _ _ _ (59, [(0, .ref o), (1, .int x1)], [.int u16, .ref o, .long (Int32.toInt64 u6)], M) _
        refine ml_blk 3 (S' := (63, [(0, .ref o), (1, .int x1)], [.int 4, .int (u16 + 8), .ref o, .long (Int32.toInt64 u6)], M)) rfl ?_
        refine ml_blk 3 (S' := (66, [(0, .ref o), (1, .int x1)], [.int ((u16 + 8) + (4 * x1)), .ref o, .long (Int32.toInt64 u6)], M)) rfl ?_
        refine ml_st (S' := (80, [], [.int ((u16 + 8) + (4 * x1)), .ref o, .long (Int32.toInt64 u6)], M)) rfl rfl rfl ?_
        refine ml_call (a := [.ref o, .int ((u16 + 8) + (4 * x1))]) (rest := [.long (Int32.toInt64 u6)]) rfl (okc_t rfl rfl rfl hS.1 hY0 (by decide)) rfl rfl (ti_s4 hS.1 hY0 hY1 (by omega)) (fun v18 M19 h20 => ?_)
        obtain ⟨⟨u21, rfl⟩, h20⟩ := h20
        rw [h20]
        show ml _ _ _ (83, [], [.int u21, .long (Int32.toInt64 u6)], M) _
        refine ml_blk 2 (S' := (85, [], [.long ((Int32.toInt64 u6) + (Int32.toInt64 u21))], M)) rfl ?_
        exact ml_ret rfl (rfl) (⟨⟨_, rfl⟩, rfl⟩)
    · have c_20 : ¬ (¬ x1 = 0) := of_decide_eq_false c_20
      refine ml_st (S' := (24, [(0, .ref o), (1, .int x1)], [.ref o], M)) rfl rfl rfl ?_
      refine tg_int rfl hS.1 hY0 (by decide) rfl (fun u22 g23 => ?_)
      show ml _ _ _ (27, [(0, .ref o), (1, .int x1)], [.int u22], M) _
      refine ml_blk 3 (S' := (30, [(0, .ref o), (1, .int x1)], [.ref o, .ref o, .long (Int32.toInt64 u22)], M)) rfl ?_
      refine tg_int rfl hS.1 hY0 (by decide) rfl (fun u24 g25 => ?_)
      show ml _ _ _ (33, [(0, .ref o), (1, .int x1)], [.int u24, .ref o, .long (Int32.toInt64 u22)], M) _
      refine ml_call (a := [.ref o, .int u24]) (rest := [.long (Int32.toInt64 u22)]) rfl (okc_t rfl rfl rfl hS.1 hY0 (by decide)) rfl rfl (ti_s4 hS.1 hY0 hY1 (by omega)) (fun v26 M27 h28 => ?_)
      obtain ⟨⟨u29, rfl⟩, h28⟩ := h28
      rw [h28]
      show ml _ _ _ (36, [(0, .ref o), (1, .int x1)], [.int u29, .long (Int32.toInt64 u22)], M) _
      refine ml_blk 2 (S' := (38, [(0, .ref o), (1, .int x1)], [.long ((Int32.toInt64 u22) + (Int32.toInt64 u29))], M)) rfl ?_
      exact ml_ret rfl (rfl) (⟨⟨_, rfl⟩, rfl⟩)
  · have c_4 : ¬ (¬ u4 = 0) := of_decide_eq_false c_4
    refine ml_st (S' := (8, [(0, .ref o), (1, .int x1)], [.ref o], M)) rfl rfl rfl ?_
    refine tg_int rfl hS.1 hY0 (by decide) rfl (fun u30 g31 => ?_)
    show ml _ _ _ (11, [(0, .ref o), (1, .int x1)], [.int u30], M) _
    refine ml_blk 2 (S' := (13, [(0, .ref o), (1, .int x1)], [.ref o, .long (Int32.toInt64 u30)], M)) rfl ?_
    refine tg_int rfl hS.1 hY0 (by decide) rfl (fun u32 g33 => ?_)
    show ml _ _ _ (16, [(0, .ref o), (1, .int x1)], [.int u32, .long (Int32.toInt64 u30)], M) _
    refine ml_blk 2 (S' := (18, [(0, .ref o), (1, .int x1)], [.long ((Int32.toInt64 u30) + (Int32.toInt64 u32))], M)) rfl ?_
    exact ml_ret rfl (rfl) (⟨⟨_, rfl⟩, rfl⟩)
set_option maxHeartbeats 2000000 in
theorem ti_isLocalOpcode {g : xe_G} {M : mi_H} {Y : yT} {x1 : Int32}  (hW : WF g Y M) {d : Nat} (hd : 1 ≤ d) : mt (mT g) d 91 [.int x1] M (pZ M) := by
  obtain ⟨d, rfl⟩ : ∃ e, d = e + 1 := ⟨d - 1, by omega⟩
  have hS : st g Y M M := st.rf hW
  refine mt_in (b := mb_91 g) rfl rfl ?_
  show ml (mT g) d (mb_91 g).2 (0, [(0, .int x1)], [], M) _
  refine ml_blk 2 (S' := (3, [(0, .int x1)], [.int 21, .int x1], M)) rfl ?_
  refine ml_if2 (S1 := (12, [(0, .int x1)], [], M)) (S2 := (6, [(0, .int x1)], [], M)) rfl rfl rfl (fun c_3 => ?_) (fun c_3 => ?_)
  · have c_3 : x1 < 21 := of_decide_eq_true c_3
    refine ml_blk 2 (S' := (15, [(0, .int x1)], [.int 54, .int x1], M)) rfl ?_
    refine ml_if2 (S1 := (24, [(0, .int x1)], [], M)) (S2 := (18, [(0, .int x1)], [], M)) rfl rfl rfl (fun c_15 => ?_) (fun c_15 => ?_)
    · have c_15 : x1 < 54 := of_decide_eq_true c_15
      refine ml_blk 2 (S' := (28, [(0, .int x1)], [.int 169, .int x1], M)) rfl ?_
      refine ml_if2 (S1 := (35, [(0, .int x1)], [], M)) (S2 := (31, [], [], M)) rfl rfl rfl (fun c_28 => ?_) (fun c_28 => ?_)
      · have c_28 : ¬ x1 = 169 := of_decide_eq_true c_28
        refine ml_st (S' := (36, [], [.int 0], M)) rfl rfl rfl ?_
        exact ml_ret rfl (r_z (Or.inl rfl)) (⟨⟨_, rfl, Or.inl rfl⟩, rfl⟩)
      · have c_28 : ¬ (¬ x1 = 169) := of_decide_eq_false c_28
        refine ml_st (S' := (32, [], [.int 1], M)) rfl rfl rfl ?_
        refine ml_st (S' := (36, [], [.int 1], M)) rfl rfl rfl ?_
        exact ml_ret rfl (r_z (Or.inr rfl)) (⟨⟨_, rfl, Or.inr rfl⟩, rfl⟩)
    · have c_15 : ¬ (x1 < 54) := of_decide_eq_false c_15
      refine ml_blk 2 (S' := (21, [(0, .int x1)], [.int 58, .int x1], M)) rfl ?_
      refine ml_if2 (S1 := (31, [], [], M)) (S2 := (24, [(0, .int x1)], [], M)) rfl rfl rfl (fun c_21 => ?_) (fun c_21 => ?_)
      · have c_21 : x1 ≤ 58 := of_decide_eq_true c_21
        refine ml_st (S' := (32, [], [.int 1], M)) rfl rfl rfl ?_
        refine ml_st (S' := (36, [], [.int 1], M)) rfl rfl rfl ?_
        exact ml_ret rfl (r_z (Or.inr rfl)) (⟨⟨_, rfl, Or.inr rfl⟩, rfl⟩)
      · have c_21 : ¬ (x1 ≤ 58) := of_decide_eq_false c_21
        refine ml_blk 2 (S' := (28, [(0, .int x1)], [.int 169, .int x1], M)) rfl ?_
        refine ml_if2 (S1 := (35, [(0, .int x1)], [], M)) (S2 := (31, [], [], M)) rfl rfl rfl (fun c_28 => ?_) (fun c_28 => ?_)
        · have c_28 : ¬ x1 = 169 := of_decide_eq_true c_28
          refine ml_st (S' := (36, [], [.int 0], M)) rfl rfl rfl ?_
          exact ml_ret rfl (r_z (Or.inl rfl)) (⟨⟨_, rfl, Or.inl rfl⟩, rfl⟩)
        · have c_28 : ¬ (¬ x1 = 169) := of_decide_eq_false c_28
          refine ml_st (S' := (32, [], [.int 1], M)) rfl rfl rfl ?_
          refine ml_st (S' := (36, [], [.int 1], M)) rfl rfl rfl ?_
          exact ml_ret rfl (r_z (Or.inr rfl)) (⟨⟨_, rfl, Or.inr rfl⟩, rfl⟩)
  · have c_3 : ¬ (x1 < 21) := of_decide_eq_false c_3
    refine ml_blk 2 (S' := (9, [(0, .int x1)], [.int 25, .int x1], M)) rfl ?_
    refine ml_if2 (S1 := (31, [], [], M)) (S2 := (12, [(0, .int x1)], [], M)) rfl rfl rfl (fun c_9 => ?_) (fun c_9 => ?_)
    · have c_9 : x1 ≤ 25 := of_decide_eq_true c_9
      refine ml_st (S' := (32, [], [.int 1], M)) rfl rfl rfl ?_
      refine ml_st (S' := (36, [], [.int 1], M)) rfl rfl rfl ?_
      exact ml_ret rfl (r_z (Or.inr rfl)) (⟨⟨_, rfl, Or.inr rfl⟩, rfl⟩)
    · have c_9 : ¬ (x1 ≤ 25) := of_decide_eq_false c_9
      refine ml_blk 2 (S' := (15, [(0, .int x1)], [.int 54, .int x1], M)) rfl ?_
      refine ml_if2 (S1 := (24, [(0, .int x1)], [], M)) (S2 := (18, [(0, .int x1)], [], M)) rfl rfl rfl (fun c_15 => ?_) (fun c_15 => ?_)
      · have c_15 : x1 < 54 := of_decide_eq_true c_15
        refine ml_blk 2 (S' := (28, [(0, .int x1)], [.int 169, .int x1], M)) rfl ?_
        refine ml_if2 (S1 := (35, [(0, .int x1)], [], M)) (S2 := (31, [], [], M)) rfl rfl rfl (fun c_28 => ?_) (fun c_28 => ?_)
        · have c_28 : ¬ x1 = 169 := of_decide_eq_true c_28
          refine ml_st (S' := (36, [], [.int 0], M)) rfl rfl rfl ?_
          exact ml_ret rfl (r_z (Or.inl rfl)) (⟨⟨_, rfl, Or.inl rfl⟩, rfl⟩)
        · have c_28 : ¬ (¬ x1 = 169) := of_decide_eq_false c_28
          refine ml_st (S' := (32, [], [.int 1], M)) rfl rfl rfl ?_
          refine ml_st (S' := (36, [], [.int 1], M)) rfl rfl rfl ?_
          exact ml_ret rfl (r_z (Or.inr rfl)) (⟨⟨_, rfl, Or.inr rfl⟩, rfl⟩)
      · have c_15 : ¬ (x1 < 54) := of_decide_eq_false c_15
        refine ml_blk 2 (S' := (21, [(0, .int x1)], [.int 58, .int x1], M)) rfl ?_
        refine ml_if2 (S1 := (31, [], [], M)) (S2 := (24, [(0, .int x1)], [], M)) rfl rfl rfl (fun c_21 => ?_) (fun c_21 => ?_)
        · have c_21 : x1 ≤ 58 := of_decide_eq_true c_21
          refine ml_st (S' := (32, [], [.int 1], M)) rfl rfl rfl ?_
          refine ml_st (S' := (36, [], [.int 1], M)) rfl rfl rfl ?_
          exact ml_ret rfl (r_z (Or.inr rfl)) (⟨⟨_, rfl, Or.inr rfl⟩, rfl⟩)
        · have c_21 : ¬ (x1 ≤ 58) := of_decide_eq_false c_21
          refine ml_blk 2 (S' := (28, [(0, .int x1)], [.int 169, .int x1], M)) rfl ?_
          refine ml_if2 (S1 := (35, [(0, .int x1)], [], M)) (S2 := (31, [], [], M)) rfl rfl rfl (fun c_28 => ?_) (fun c_28 => ?_)
          · have c_28 : ¬ x1 = 169 := of_decide_eq_true c_28
            refine ml_st (S' := (36, [], [.int 0], M)) rfl rfl rfl ?_
            exact ml_ret rfl (r_z (Or.inl rfl)) (⟨⟨_, rfl, Or.inl rfl⟩, rfl⟩)
          · have c_28 : ¬ (¬ x1 = 169) := of_decide_eq_false c_28
            refine ml_st (S' := (32, [], [.int 1], M)) rfl rfl rfl ?_
            refine ml_st (S' := (36, [], [.int 1], M)) rfl rfl rfl ?_
            exact ml_ret rfl (r_z (Or.inr rfl)) (⟨⟨_, rfl, Or.inr rfl⟩, rfl⟩)
def pS (M : mi_H) : Option Value → mi_H → Prop := fun v M' => (∃ x : Int32, v = some (.int x) ∧ 1 ≤ x.toInt) ∧ M' = M
set_option maxHeartbeats 2000000 in
theorem ti_sizeOf {g : xe_G} {M : mi_H} {Y : yT} {x1 : Int32}  (hW : WF g Y M) {d : Nat} (hd : 2 ≤ d) : mt (mT g) d 102 [.int x1] M (pS M) := by
  obtain ⟨d, rfl⟩ : ∃ e, d = e + 1 := ⟨d - 1, by omega⟩
  have hS : st g Y M M := st.rf hW
  refine mt_in (b := mb_102 g) rfl rfl ?_
  show ml (mT g) d (mb_102 g).2 (0, [(0, .int x1)], [], M) _
  refine ml_blk 2 (S' := (4, [(0, .int x1)], [.int 153, .int x1], M)) rfl ?_
  have J_14 : ml (mT g) d (mb_102 g).2 (14, [(0, .int x1)], [], M) (pS M) := by
    refine ml_blk 2 (S' := (18, [(0, .int x1)], [.int 178, .int x1], M)) rfl ?_
    have J_30 : ml (mT g) d (mb_102 g).2 (30, [(0, .int x1)], [], M) (pS M) := by
      refine ml_st (S' := (31, [(0, .int x1)], [.int x1], M)) rfl rfl rfl ?_
      refine ml_call (a := [.int x1]) (rest := []) rfl (rfl) rfl rfl (ti_isLocalOpcode hS.1  (by omega)) (fun v1 M2 h3 => ?_)
      obtain ⟨⟨u4, rfl, z5⟩, h3⟩ := h3
      rw [h3]
      show ml _ _ _ (34, [(0, .int x1)], [.int u4], M) _
      refine ml_if (S1 := (39, [(0, .int x1)], [], M)) (S2 := (37, [(0, .int x1)], [], M)) rfl rfl rfl (fun c_34 => ?_) (fun c_34 => ?_)
      · have c_34 : u4 = 0 := of_decide_eq_true c_34
        refine ml_st (S' := (40, [(0, .int x1)], [.int x1], M)) rfl rfl rfl ?_
        refine ml_sw rfl (fun t_40 ht_40 => ?_)
        have kt_40 := ht_40
        have ht_40 : t_40 ∈ [196, 198, 200, 202, 204] := mi_sw_sub ht_40 (by decide)
        simp only [List.mem_cons, List.not_mem_nil, or_false] at ht_40
        rcases ht_40 with rfl | rfl | rfl | rfl | rfl
        · show ml _ _ _ (196, [(0, .int x1)], [], M) _
          refine ml_st (S' := (197, [(0, .int x1)], [.int 2], M)) rfl rfl rfl ?_
          exact ml_ret rfl (rfl) (⟨⟨_, rfl, by decide⟩, rfl⟩)
        · show ml _ _ _ (198, [(0, .int x1)], [], M) _
          refine ml_st (S' := (199, [(0, .int x1)], [.int 3], M)) rfl rfl rfl ?_
          exact ml_ret rfl (rfl) (⟨⟨_, rfl, by decide⟩, rfl⟩)
        · show ml _ _ _ (200, [(0, .int x1)], [], M) _
          refine ml_st (S' := (201, [(0, .int x1)], [.int 4], M)) rfl rfl rfl ?_
          exact ml_ret rfl (rfl) (⟨⟨_, rfl, by decide⟩, rfl⟩)
        · show ml _ _ _ (202, [(0, .int x1)], [], M) _
          refine ml_st (S' := (203, [(0, .int x1)], [.int 5], M)) rfl rfl rfl ?_
          exact ml_ret rfl (rfl) (⟨⟨_, rfl, by decide⟩, rfl⟩)
        · show ml _ _ _ (204, [(0, .int x1)], [], M) _
          refine ml_st (S' := (205, [(0, .int x1)], [.int 1], M)) rfl rfl rfl ?_
          exact ml_ret rfl (rfl) (⟨⟨_, rfl, by decide⟩, rfl⟩)
      · have c_34 : ¬ (u4 = 0) := of_decide_eq_false c_34
        refine ml_st (S' := (38, [(0, .int x1)], [.int 2], M)) rfl rfl rfl ?_
        exact ml_ret rfl (rfl) (⟨⟨_, rfl, by decide⟩, rfl⟩)
    refine ml_if2 (S1 := (30, [(0, .int x1)], [], M)) (S2 := (21, [(0, .int x1)], [], M)) rfl rfl rfl (fun c_18 => ?_) (fun c_18 => ?_)
    · have c_18 : x1 < 178 := of_decide_eq_true c_18
      exact J_30 
    · have c_18 : ¬ (x1 < 178) := of_decide_eq_false c_18
      refine ml_blk 2 (S' := (25, [(0, .int x1)], [.int 184, .int x1], M)) rfl ?_
      refine ml_if2 (S1 := (30, [(0, .int x1)], [], M)) (S2 := (28, [], [], M)) rfl rfl rfl (fun c_25 => ?_) (fun c_25 => ?_)
      · have c_25 : 184 < x1 := of_decide_eq_true c_25
        exact J_30 
      · have c_25 : ¬ (184 < x1) := of_decide_eq_false c_25
        refine ml_st (S' := (29, [], [.int 3], M)) rfl rfl rfl ?_
        exact ml_ret rfl (rfl) (⟨⟨_, rfl, by decide⟩, rfl⟩)
  refine ml_if2 (S1 := (14, [(0, .int x1)], [], M)) (S2 := (7, [(0, .int x1)], [], M)) rfl rfl rfl (fun c_4 => ?_) (fun c_4 => ?_)
  · have c_4 : x1 < 153 := of_decide_eq_true c_4
    exact J_14 
  · have c_4 : ¬ (x1 < 153) := of_decide_eq_false c_4
    refine ml_blk 2 (S' := (11, [(0, .int x1)], [.int 168, .int x1], M)) rfl ?_
    refine ml_if2 (S1 := (28, [], [], M)) (S2 := (14, [(0, .int x1)], [], M)) rfl rfl rfl (fun c_11 => ?_) (fun c_11 => ?_)
    · have c_11 : x1 ≤ 168 := of_decide_eq_true c_11
      refine ml_st (S' := (29, [], [.int 3], M)) rfl rfl rfl ?_
      exact ml_ret rfl (rfl) (⟨⟨_, rfl, by decide⟩, rfl⟩)
    · have c_11 : ¬ (x1 ≤ 168) := of_decide_eq_false c_11
      exact J_14 
set_option maxHeartbeats 2000000 in
theorem ti_isLocalTaken {g : xe_G} {M : mi_H} {Y : yT} {o b k da n : Nat} {x1 : Int32}  (hW : WF g Y M) (hY0 : Y.1 o = some (5, [b, k])) (hY1 : Y.1 b = some (1, [da, n])) {d : Nat} (hd : 1 ≤ d) : mt (mT g) d 92 [.ref o, .int x1] M (kZ g Y o M) := by
  obtain ⟨d, rfl⟩ : ∃ e, d = e + 1 := ⟨d - 1, by omega⟩
  have hS : sk g Y o M M := sk.rf hW
  refine mt_in (b := mb_92 g) rfl rfl ?_
  show ml (mT g) d (mb_92 g).2 (0, [(0, .ref o), (1, .int x1)], [], M) _
  refine ml_st (S' := (1, [(0, .ref o), (1, .int x1)], [.ref o], M)) rfl rfl rfl ?_
  refine tg_int rfl hS.1.1.1 hY0 (by decide) rfl (fun u1 g2 => ?_)
  show ml _ _ _ (4, [(0, .ref o), (1, .int x1)], [.int u1], M) _
  refine ml_st (S' := (6, [(0, .ref o), (1, .int x1)], [.int 22, .int u1], M)) rfl rfl rfl ?_
  have J_36 : ml (mT g) d (mb_92 g).2 (36, [(0, .ref o), (1, .int x1)], [], M) (kZ g Y o M) := by
    refine ml_st (S' := (37, [(0, .ref o), (1, .int x1)], [.int 1], M)) rfl rfl rfl ?_
    refine ml_st (S' := (41, [(0, .ref o), (1, .int x1)], [.int 1], M)) rfl rfl rfl ?_
    refine ml_st (S' := (42, [(2, .int 1), (0, .ref o), (1, .int x1)], [], M)) rfl rfl rfl ?_
    refine ml_blk 2 (S' := (44, [(2, .int 1), (0, .ref o), (1, .int x1)], [.int 1, .ref o], M)) rfl ?_
    refine ml_if (S1 := (51, [(2, .int 1), (0, .ref o), (1, .int x1)], [.ref o], M)) (S2 := (47, [(2, .int 1), (0, .ref o), (1, .int x1)], [.ref o], M)) rfl rfl rfl (fun c_44 => ?_) (fun c_44 => ?_)
    · have c_44 : 1 = 0 := of_decide_eq_true c_44
      refine ml_st (S' := (52, [(0, .ref o), (1, .int x1)], [.int 1, .ref o], M)) rfl rfl rfl ?_
      refine tp_put rfl hS.1.1 hY0 (by decide) rfl (⟨_, rfl⟩) rfl rfl (fun M3 hS4 f5 => ?_)
      have hS6 := hS.put hS4 f5 rfl
      show ml _ _ _ (55, [(0, .ref o), (1, .int x1)], [], M3) _
      refine ml_blk 2 (S' := (57, [(0, .ref o), (1, .int x1)], [.int x1, .ref o], M3)) rfl ?_
      refine tp_put rfl hS6.1.1 hY0 (by decide) rfl (⟨_, rfl⟩) rfl rfl (fun M7 hS8 f9 => ?_)
      have hS10 := hS6.put hS8 f9 rfl
      show ml _ _ _ (60, [(0, .ref o), (1, .int x1)], [], M7) _
      refine ml_st (S' := (61, [(0, .ref o), (1, .int x1)], [.int 1], M7)) rfl rfl rfl ?_
      exact ml_ret rfl (r_z (Or.inr rfl)) (⟨⟨_, rfl, Or.inr rfl⟩, hS10⟩)
    · have c_44 : ¬ (1 = 0) := of_decide_eq_false c_44
      refine ml_st (S' := (48, [(2, .int 1), (0, .ref o), (1, .int x1)], [.int 2, .ref o], M)) rfl rfl rfl ?_
      refine ml_st (S' := (52, [(0, .ref o), (1, .int x1)], [.int 2, .ref o], M)) rfl rfl rfl ?_
      refine tp_put rfl hS.1.1 hY0 (by decide) rfl (⟨_, rfl⟩) rfl rfl (fun M11 hS12 f13 => ?_)
      have hS14 := hS.put hS12 f13 rfl
      show ml _ _ _ (55, [(0, .ref o), (1, .int x1)], [], M11) _
      refine ml_blk 2 (S' := (57, [(0, .ref o), (1, .int x1)], [.int x1, .ref o], M11)) rfl ?_
      refine tp_put rfl hS14.1.1 hY0 (by decide) rfl (⟨_, rfl⟩) rfl rfl (fun M15 hS16 f17 => ?_)
      have hS18 := hS14.put hS16 f17 rfl
      show ml _ _ _ (60, [(0, .ref o), (1, .int x1)], [], M15) _
      refine ml_st (S' := (61, [(0, .ref o), (1, .int x1)], [.int 1], M15)) rfl rfl rfl ?_
      exact ml_ret rfl (r_z (Or.inr rfl)) (⟨⟨_, rfl, Or.inr rfl⟩, hS18⟩)
  refine ml_if2 (S1 := (36, [(0, .ref o), (1, .int x1)], [], M)) (S2 := (9, [(0, .ref o), (1, .int x1)], [], M)) rfl rfl rfl (fun c_6 => ?_) (fun c_6 => ?_)
  · have c_6 : u1 = 22 := of_decide_eq_true c_6
    exact J_36 
  · have c_6 : ¬ (u1 = 22) := of_decide_eq_false c_6
    refine ml_st (S' := (10, [(0, .ref o), (1, .int x1)], [.ref o], M)) rfl rfl rfl ?_
    refine ml_get (S' := (13, [(0, .ref o), (1, .int x1)], [.int u1], M)) rfl g2 rfl ?_
    refine ml_st (S' := (15, [(0, .ref o), (1, .int x1)], [.int 24, .int u1], M)) rfl rfl rfl ?_
    refine ml_if2 (S1 := (36, [(0, .ref o), (1, .int x1)], [], M)) (S2 := (18, [(0, .ref o), (1, .int x1)], [], M)) rfl rfl rfl (fun c_15 => ?_) (fun c_15 => ?_)
    · have c_15 : u1 = 24 := of_decide_eq_true c_15
      exact J_36 
    · have c_15 : ¬ (u1 = 24) := of_decide_eq_false c_15
      refine ml_st (S' := (19, [(0, .ref o), (1, .int x1)], [.ref o], M)) rfl rfl rfl ?_
      refine ml_get (S' := (22, [(0, .ref o), (1, .int x1)], [.int u1], M)) rfl g2 rfl ?_
      refine ml_st (S' := (24, [(0, .ref o), (1, .int x1)], [.int 55, .int u1], M)) rfl rfl rfl ?_
      refine ml_if2 (S1 := (36, [(0, .ref o), (1, .int x1)], [], M)) (S2 := (27, [(0, .ref o), (1, .int x1)], [], M)) rfl rfl rfl (fun c_24 => ?_) (fun c_24 => ?_)
      · have c_24 : u1 = 55 := of_decide_eq_true c_24
        exact J_36 
      · have c_24 : ¬ (u1 = 55) := of_decide_eq_false c_24
        refine ml_st (S' := (28, [(0, .ref o), (1, .int x1)], [.ref o], M)) rfl rfl rfl ?_
        refine ml_get (S' := (31, [(0, .ref o), (1, .int x1)], [.int u1], M)) rfl g2 rfl ?_
        refine ml_st (S' := (33, [(0, .ref o), (1, .int x1)], [.int 57, .int u1], M)) rfl rfl rfl ?_
        refine ml_if2 (S1 := (40, [(0, .ref o), (1, .int x1)], [], M)) (S2 := (36, [(0, .ref o), (1, .int x1)], [], M)) rfl rfl rfl (fun c_33 => ?_) (fun c_33 => ?_)
        · have c_33 : ¬ u1 = 57 := of_decide_eq_true c_33
          refine ml_st (S' := (41, [(0, .ref o), (1, .int x1)], [.int 0], M)) rfl rfl rfl ?_
          refine ml_st (S' := (42, [(2, .int 0), (0, .ref o), (1, .int x1)], [], M)) rfl rfl rfl ?_
          refine ml_blk 2 (S' := (44, [(2, .int 0), (0, .ref o), (1, .int x1)], [.int 0, .ref o], M)) rfl ?_
          refine ml_if (S1 := (51, [(2, .int 0), (0, .ref o), (1, .int x1)], [.ref o], M)) (S2 := (47, [(2, .int 0), (0, .ref o), (1, .int x1)], [.ref o], M)) rfl rfl rfl (fun c_44 => ?_) (fun c_44 => ?_)
          · have c_44 : 0 = 0 := of_decide_eq_true c_44
            refine ml_st (S' := (52, [(0, .ref o), (1, .int x1)], [.int 1, .ref o], M)) rfl rfl rfl ?_
            refine tp_put rfl hS.1.1 hY0 (by decide) rfl (⟨_, rfl⟩) rfl rfl (fun M19 hS20 f21 => ?_)
            have hS22 := hS.put hS20 f21 rfl
            show ml _ _ _ (55, [(0, .ref o), (1, .int x1)], [], M19) _
            refine ml_blk 2 (S' := (57, [(0, .ref o), (1, .int x1)], [.int x1, .ref o], M19)) rfl ?_
            refine tp_put rfl hS22.1.1 hY0 (by decide) rfl (⟨_, rfl⟩) rfl rfl (fun M23 hS24 f25 => ?_)
            have hS26 := hS22.put hS24 f25 rfl
            show ml _ _ _ (60, [(0, .ref o), (1, .int x1)], [], M23) _
            refine ml_st (S' := (61, [(0, .ref o), (1, .int x1)], [.int 1], M23)) rfl rfl rfl ?_
            exact ml_ret rfl (r_z (Or.inr rfl)) (⟨⟨_, rfl, Or.inr rfl⟩, hS26⟩)
          · have c_44 : ¬ (0 = 0) := of_decide_eq_false c_44
            refine ml_st (S' := (48, [(2, .int 0), (0, .ref o), (1, .int x1)], [.int 2, .ref o], M)) rfl rfl rfl ?_
            refine ml_st (S' := (52, [(0, .ref o), (1, .int x1)], [.int 2, .ref o], M)) rfl rfl rfl ?_
            refine tp_put rfl hS.1.1 hY0 (by decide) rfl (⟨_, rfl⟩) rfl rfl (fun M27 hS28 f29 => ?_)
            have hS30 := hS.put hS28 f29 rfl
            show ml _ _ _ (55, [(0, .ref o), (1, .int x1)], [], M27) _
            refine ml_blk 2 (S' := (57, [(0, .ref o), (1, .int x1)], [.int x1, .ref o], M27)) rfl ?_
            refine tp_put rfl hS30.1.1 hY0 (by decide) rfl (⟨_, rfl⟩) rfl rfl (fun M31 hS32 f33 => ?_)
            have hS34 := hS30.put hS32 f33 rfl
            show ml _ _ _ (60, [(0, .ref o), (1, .int x1)], [], M31) _
            refine ml_st (S' := (61, [(0, .ref o), (1, .int x1)], [.int 1], M31)) rfl rfl rfl ?_
            exact ml_ret rfl (r_z (Or.inr rfl)) (⟨⟨_, rfl, Or.inr rfl⟩, hS34⟩)
        · have c_33 : ¬ (¬ u1 = 57) := of_decide_eq_false c_33
          exact J_36 
set_option maxHeartbeats 2000000 in
theorem ti_isShortLocalTaken {g : xe_G} {M : mi_H} {Y : yT} {o b k da n : Nat} {x1 x2 : Int32}  (hW : WF g Y M) (hY0 : Y.1 o = some (5, [b, k])) (hY1 : Y.1 b = some (1, [da, n])) {d : Nat} (hd : 2 ≤ d) : mt (mT g) d 94 [.ref o, .int x1, .int x2] M (kZ g Y o M) := by
  obtain ⟨d, rfl⟩ : ∃ e, d = e + 1 := ⟨d - 1, by omega⟩
  have hS : sk g Y o M M := sk.rf hW
  refine mt_in (b := mb_94 g) rfl rfl ?_
  show ml (mT g) d (mb_94 g).2 (0, [(0, .ref o), (1, .int x1), (2, .int x2)], [], M) _
  refine ml_blk 3 (S' := (3, [(0, .ref o), (1, .int x1), (2, .int x2)], [.int x1, .int x2, .ref o], M)) rfl ?_
  refine ml_st (S' := (4, [(0, .ref o), (1, .int x1), (2, .int x2)], [.int 4, .int x1, .int x2, .ref o], M)) rfl rfl rfl ?_
  refine ml_blk 2 (S' := (6, [(0, .ref o), (1, .int x1), (2, .int x2)], [.int (x2 + (x1 / 4)), .ref o], M)) rfl ?_
  refine tp_put rfl hS.1.1 hY0 (by decide) rfl (⟨_, rfl⟩) rfl rfl (fun M1 hS2 f3 => ?_)
  have hS4 := hS.put hS2 f3 rfl
  show ml _ _ _ (9, [(0, .ref o), (1, .int x1), (2, .int x2)], [], M1) _
  refine ml_blk 3 (S' := (12, [(0, .ref o), (1, .int x1), (2, .int x2)], [.int 4, .int x1, .ref o], M1)) rfl ?_
  refine ml_st (S' := (13, [(0, .ref o), (1, .int x1), (2, .int x2)], [.int (x1 - x1 / 4 * 4), .ref o], M1)) rfl rfl rfl ?_
  refine ml_call (a := [.ref o, .int (x1 - x1 / 4 * 4)]) (rest := []) rfl (okc_t rfl rfl rfl hS4.1.1.1 hY0 (by decide)) rfl rfl (ti_isLocalTaken hS4.1.1.1 hY0 hY1 (by omega)) (fun v5 M6 h7 => ?_)
  obtain ⟨⟨u8, rfl, z9⟩, h7⟩ := h7
  have hS10 := hS4.tr h7
  show ml _ _ _ (16, [(0, .ref o), (1, .int x1), (2, .int x2)], [.int u8], M6) _
  exact ml_ret rfl (r_z (z9)) (⟨⟨_, rfl, z9⟩, hS10⟩)
set_option maxHeartbeats 2000000 in
theorem ti_isJumpTaken {g : xe_G} {M : mi_H} {Y : yT} {o b k da n : Nat} {x1 x2 : Int32}  (hW : WF g Y M) (hY0 : Y.1 o = some (5, [b, k])) (hY1 : Y.1 b = some (1, [da, n])) {d : Nat} (hd : 1 ≤ d) : mt (mT g) d 90 [.ref o, .int x1, .int x2] M (kZ g Y o M) := by
  obtain ⟨d, rfl⟩ : ∃ e, d = e + 1 := ⟨d - 1, by omega⟩
  have hS : sk g Y o M M := sk.rf hW
  refine mt_in (b := mb_90 g) rfl rfl ?_
  show ml (mT g) d (mb_90 g).2 (0, [(0, .ref o), (1, .int x1), (2, .int x2)], [], M) _
  refine ml_blk 2 (S' := (2, [(0, .ref o), (1, .int x1), (2, .int x2)], [.int x2, .ref o], M)) rfl ?_
  refine tp_put rfl hS.1.1 hY0 (by decide) rfl (⟨_, rfl⟩) rfl rfl (fun M1 hS2 f3 => ?_)
  have hS4 := hS.put hS2 f3 rfl
  show ml _ _ _ (5, [(0, .ref o), (1, .int x1), (2, .int x2)], [], M1) _
  refine ml_blk 2 (S' := (7, [(0, .ref o), (1, .int x1), (2, .int x2)], [.int x1, .ref o], M1)) rfl ?_
  refine tp_put rfl hS4.1.1 hY0 (by decide) rfl (⟨_, rfl⟩) rfl rfl (fun M5 hS6 f7 => ?_)
  have hS8 := hS4.put hS6 f7 rfl
  show ml _ _ _ (10, [(0, .ref o), (1, .int x1), (2, .int x2)], [], M5) _
  refine ml_blk 2 (S' := (12, [(0, .ref o), (1, .int x1), (2, .int x2)], [.int 1, .ref o], M5)) rfl ?_
  refine tp_put rfl hS8.1.1 hY0 (by decide) rfl (⟨_, rfl⟩) rfl rfl (fun M9 hS10 f11 => ?_)
  have hS12 := hS8.put hS10 f11 rfl
  show ml _ _ _ (15, [(0, .ref o), (1, .int x1), (2, .int x2)], [], M9) _
  refine ml_st (S' := (16, [(0, .ref o), (1, .int x1), (2, .int x2)], [.int 1], M9)) rfl rfl rfl ?_
  exact ml_ret rfl (r_z (Or.inr rfl)) (⟨⟨_, rfl, Or.inr rfl⟩, hS12⟩)
set_option maxHeartbeats 2000000 in
theorem ti_isIndexTaken {g : xe_G} {M : mi_H} {Y : yT} {o b k da n : Nat}  (hW : WF g Y M) (hY0 : Y.1 o = some (5, [b, k])) (hY1 : Y.1 b = some (1, [da, n])) {d : Nat} (hd : 3 ≤ d) : mt (mT g) d 88 [.ref o] M (kZ g Y o M) := by
  obtain ⟨d, rfl⟩ : ∃ e, d = e + 1 := ⟨d - 1, by omega⟩
  have hS : sk g Y o M M := sk.rf hW
  refine mt_in (b := mb_88 g) rfl rfl ?_
  show ml (mT g) d (mb_88 g).2 (0, [(0, .ref o)], [], M) _
  refine ml_st (S' := (1, [(0, .ref o)], [.ref o], M)) rfl rfl rfl ?_
  refine tg_int rfl hS.1.1.1 hY0 (by decide) rfl (fun u1 g2 => ?_)
  show ml _ _ _ (4, [(0, .ref o)], [.int u1], M) _
  refine ml_st (S' := (5, [(0, .ref o)], [.int 3, .int u1], M)) rfl rfl rfl ?_
  refine ml_if2 (S1 := (10, [(0, .ref o)], [], M)) (S2 := (8, [(0, .ref o)], [], M)) rfl rfl rfl (fun c_5 => ?_) (fun c_5 => ?_)
  · have c_5 : 3 ≤ u1 := of_decide_eq_true c_5
    refine ml_blk 3 (S' := (13, [(0, .ref o)], [.ref o, .ref o, .ref o], M)) rfl ?_
    refine tg_int rfl hS.1.1.1 hY0 (by decide) rfl (fun u3 g4 => ?_)
    show ml _ _ _ (16, [(0, .ref o)], [.int u3, .ref o, .ref o], M) _
    refine ml_blk 2 (S' := (18, [(0, .ref o)], [.int (u3 + 1), .ref o, .ref o], M)) rfl ?_
    refine ml_call (a := [.ref o, .int (u3 + 1)]) (rest := [.ref o]) rfl (okc_t rfl rfl rfl hS.1.1.1 hY0 (by decide)) rfl rfl (ti_u2 hS.1.1.1 hY0 hY1 (by omega)) (fun v5 M6 h7 => ?_)
    obtain ⟨⟨u8, rfl⟩, h7⟩ := h7
    rw [h7]
    show ml _ _ _ (21, [(0, .ref o)], [.int u8, .ref o], M) _
    refine tp_put rfl hS.1.1 hY0 (by decide) rfl (⟨_, rfl⟩) rfl rfl (fun M9 hS10 f11 => ?_)
    have hS12 := hS.put hS10 f11 rfl
    show ml _ _ _ (24, [(0, .ref o)], [], M9) _
    refine ml_st (S' := (25, [(0, .ref o)], [.ref o], M9)) rfl rfl rfl ?_
    refine tg_int rfl hS12.1.1.1 hY0 (by decide) rfl (fun u13 g14 => ?_)
    show ml _ _ _ (28, [(0, .ref o)], [.int u13], M9) _
    refine ml_sw rfl (fun t_28 ht_28 => ?_)
    have kt_28 := ht_28
    have ht_28 : t_28 ∈ [64, 80, 113, 132] := mi_sw_sub ht_28 (by decide)
    simp only [List.mem_cons, List.not_mem_nil, or_false] at ht_28
    rcases ht_28 with rfl | rfl | rfl | rfl
    · show ml _ _ _ (64, [(0, .ref o)], [], M9) _
      refine ml_blk 3 (S' := (67, [(0, .ref o)], [.ref o, .ref o, .ref o], M9)) rfl ?_
      refine tg_int rfl hS12.1.1.1 hY0 (by decide) rfl (fun u15 g16 => ?_)
      show ml _ _ _ (70, [(0, .ref o)], [.int u15, .ref o, .ref o], M9) _
      refine ml_blk 2 (S' := (72, [(0, .ref o)], [.int (u15 + 3), .ref o, .ref o], M9)) rfl ?_
      refine ml_call (a := [.ref o, .int (u15 + 3)]) (rest := [.ref o]) rfl (okc_t rfl rfl rfl hS12.1.1.1 hY0 (by decide)) rfl rfl (ti_u1 hS12.1.1.1 hY0 hY1 (by omega)) (fun v17 M18 h19 => ?_)
      obtain ⟨⟨u20, rfl⟩, h19⟩ := h19
      rw [h19]
      show ml _ _ _ (75, [(0, .ref o)], [.int u20, .ref o], M9) _
      refine tp_put rfl hS12.1.1 hY0 (by decide) rfl (⟨_, rfl⟩) rfl rfl (fun M21 hS22 f23 => ?_)
      have hS24 := hS12.put hS22 f23 rfl
      show ml _ _ _ (78, [(0, .ref o)], [], M21) _
      refine ml_st (S' := (79, [(0, .ref o)], [.int 1], M21)) rfl rfl rfl ?_
      exact ml_ret rfl (r_z (Or.inr rfl)) (⟨⟨_, rfl, Or.inr rfl⟩, hS24⟩)
    · show ml _ _ _ (80, [(0, .ref o)], [], M9) _
      refine ml_blk 3 (S' := (83, [(0, .ref o)], [.ref o, .ref o, .ref o], M9)) rfl ?_
      refine tg_int rfl hS12.1.1.1 hY0 (by decide) rfl (fun u25 g26 => ?_)
      show ml _ _ _ (86, [(0, .ref o)], [.int u25, .ref o, .ref o], M9) _
      refine ml_blk 2 (S' := (88, [(0, .ref o)], [.int (u25 + 3), .ref o, .ref o], M9)) rfl ?_
      refine ml_call (a := [.ref o, .int (u25 + 3)]) (rest := [.ref o]) rfl (okc_t rfl rfl rfl hS12.1.1.1 hY0 (by decide)) rfl rfl (ti_u1 hS12.1.1.1 hY0 hY1 (by omega)) (fun v27 M28 h29 => ?_)
      obtain ⟨⟨u30, rfl⟩, h29⟩ := h29
      rw [h29]
      show ml _ _ _ (91, [(0, .ref o)], [.int u30, .ref o], M9) _
      refine tp_put rfl hS12.1.1 hY0 (by decide) rfl (⟨_, rfl⟩) rfl rfl (fun M31 hS32 f33 => ?_)
      have hS34 := hS12.put hS32 f33 rfl
      show ml _ _ _ (94, [(0, .ref o)], [], M31) _
      refine ml_blk 2 (S' := (96, [(0, .ref o)], [.ref o, .ref o], M31)) rfl ?_
      refine tg_int rfl hS34.1.1.1 hY0 (by decide) rfl (fun u35 g36 => ?_)
      show ml _ _ _ (99, [(0, .ref o)], [.int u35, .ref o], M31) _
      refine ml_blk 2 (S' := (101, [(0, .ref o)], [.int (u35 + 4), .ref o], M31)) rfl ?_
      refine ml_call (a := [.ref o, .int (u35 + 4)]) (rest := []) rfl (okc_t rfl rfl rfl hS34.1.1.1 hY0 (by decide)) rfl rfl (ti_u1 hS34.1.1.1 hY0 hY1 (by omega)) (fun v37 M38 h39 => ?_)
      obtain ⟨⟨u40, rfl⟩, h39⟩ := h39
      rw [h39]
      show ml _ _ _ (104, [(0, .ref o)], [.int u40], M31) _
      refine ml_if (S1 := (111, [(0, .ref o)], [], M31)) (S2 := (107, [(0, .ref o)], [], M31)) rfl rfl rfl (fun c_104 => ?_) (fun c_104 => ?_)
      · have c_104 : ¬ u40 = 0 := of_decide_eq_true c_104
        refine ml_st (S' := (112, [], [.int 0], M31)) rfl rfl rfl ?_
        exact ml_ret rfl (r_z (Or.inl rfl)) (⟨⟨_, rfl, Or.inl rfl⟩, hS34⟩)
      · have c_104 : ¬ (¬ u40 = 0) := of_decide_eq_false c_104
        refine ml_st (S' := (108, [(0, .ref o)], [.int 1], M31)) rfl rfl rfl ?_
        refine ml_st (S' := (112, [], [.int 1], M31)) rfl rfl rfl ?_
        exact ml_ret rfl (r_z (Or.inr rfl)) (⟨⟨_, rfl, Or.inr rfl⟩, hS34⟩)
    · show ml _ _ _ (113, [(0, .ref o)], [], M9) _
      refine ml_blk 2 (S' := (115, [(0, .ref o)], [.ref o, .ref o], M9)) rfl ?_
      refine tg_int rfl hS12.1.1.1 hY0 (by decide) rfl (fun u41 g42 => ?_)
      show ml _ _ _ (118, [(0, .ref o)], [.int u41, .ref o], M9) _
      refine ml_blk 2 (S' := (120, [(0, .ref o)], [.int (u41 + 3), .ref o], M9)) rfl ?_
      refine ml_call (a := [.ref o, .int (u41 + 3)]) (rest := []) rfl (okc_t rfl rfl rfl hS12.1.1.1 hY0 (by decide)) rfl rfl (ti_u2 hS12.1.1.1 hY0 hY1 (by omega)) (fun v43 M44 h45 => ?_)
      obtain ⟨⟨u46, rfl⟩, h45⟩ := h45
      rw [h45]
      show ml _ _ _ (123, [(0, .ref o)], [.int u46], M9) _
      refine ml_if (S1 := (130, [(0, .ref o)], [], M9)) (S2 := (126, [(0, .ref o)], [], M9)) rfl rfl rfl (fun c_123 => ?_) (fun c_123 => ?_)
      · have c_123 : ¬ u46 = 0 := of_decide_eq_true c_123
        refine ml_st (S' := (131, [], [.int 0], M9)) rfl rfl rfl ?_
        exact ml_ret rfl (r_z (Or.inl rfl)) (⟨⟨_, rfl, Or.inl rfl⟩, hS12⟩)
      · have c_123 : ¬ (¬ u46 = 0) := of_decide_eq_false c_123
        refine ml_st (S' := (127, [(0, .ref o)], [.int 1], M9)) rfl rfl rfl ?_
        refine ml_st (S' := (131, [], [.int 1], M9)) rfl rfl rfl ?_
        exact ml_ret rfl (r_z (Or.inr rfl)) (⟨⟨_, rfl, Or.inr rfl⟩, hS12⟩)
    · show ml _ _ _ (132, [(0, .ref o)], [], M9) _
      refine ml_st (S' := (133, [(0, .ref o)], [.int 1], M9)) rfl rfl rfl ?_
      exact ml_ret rfl (r_z (Or.inr rfl)) (⟨⟨_, rfl, Or.inr rfl⟩, hS12⟩)
  · have c_5 : ¬ (3 ≤ u1) := of_decide_eq_false c_5
    refine ml_st (S' := (9, [(0, .ref o)], [.int 1], M)) rfl rfl rfl ?_
    exact ml_ret rfl (r_z (Or.inr rfl)) (⟨⟨_, rfl, Or.inr rfl⟩, hS⟩)
set_option maxHeartbeats 2000000 in
theorem ti_areOperandsTaken {g : xe_G} {M : mi_H} {Y : yT} {o b k da n : Nat}  (hW : WF g Y M) (hY0 : Y.1 o = some (5, [b, k])) (hY1 : Y.1 b = some (1, [da, n])) {d : Nat} (hd : 4 ≤ d) : mt (mT g) d 87 [.ref o] M (kZ g Y o M) := by
  obtain ⟨d, rfl⟩ : ∃ e, d = e + 1 := ⟨d - 1, by omega⟩
  have hS : sk g Y o M M := sk.rf hW
  refine mt_in (b := mb_87 g) rfl rfl ?_
  show ml (mT g) d (mb_87 g).2 (0, [(0, .ref o)], [], M) _
  refine ml_st (S' := (1, [(0, .ref o)], [.ref o], M)) rfl rfl rfl ?_
  refine tg_int rfl hS.1.1.1 hY0 (by decide) rfl (fun u1 g2 => ?_)
  show ml _ _ _ (4, [(0, .ref o)], [.int u1], M) _
  refine ml_st (S' := (6, [(0, .ref o)], [.int 26, .int u1], M)) rfl rfl rfl ?_
  have J_32 : ml (mT g) d (mb_87 g).2 (32, [(0, .ref o)], [], M) (kZ g Y o M) := by
    refine ml_st (S' := (33, [(0, .ref o)], [.ref o], M)) rfl rfl rfl ?_
    refine ml_get (S' := (36, [(0, .ref o)], [.int u1], M)) rfl g2 rfl ?_
    refine ml_st (S' := (38, [(0, .ref o)], [.int 59, .int u1], M)) rfl rfl rfl ?_
    have J_64 : ml (mT g) d (mb_87 g).2 (64, [(0, .ref o)], [], M) (kZ g Y o M) := by
      refine ml_st (S' := (65, [(0, .ref o)], [.ref o], M)) rfl rfl rfl ?_
      refine ml_get (S' := (68, [(0, .ref o)], [.int u1], M)) rfl g2 rfl ?_
      refine ml_call (a := [.int u1]) (rest := []) rfl (rfl) rfl rfl (ti_isLocalOpcode hS.1.1.1  (by omega)) (fun v3 M4 h5 => ?_)
      obtain ⟨⟨u6, rfl, z7⟩, h5⟩ := h5
      rw [h5]
      show ml _ _ _ (71, [(0, .ref o)], [.int u6], M) _
      refine ml_if (S1 := (89, [(0, .ref o)], [], M)) (S2 := (74, [(0, .ref o)], [], M)) rfl rfl rfl (fun c_71 => ?_) (fun c_71 => ?_)
      · have c_71 : u6 = 0 := of_decide_eq_true c_71
        refine ml_st (S' := (90, [(0, .ref o)], [.ref o], M)) rfl rfl rfl ?_
        refine ml_get (S' := (93, [(0, .ref o)], [.int u1], M)) rfl g2 rfl ?_
        refine ml_st (S' := (96, [(0, .ref o)], [.int 153, .int u1], M)) rfl rfl rfl ?_
        have J_109 : ml (mT g) d (mb_87 g).2 (109, [(0, .ref o)], [], M) (kZ g Y o M) := by
          refine ml_st (S' := (110, [(0, .ref o)], [.ref o], M)) rfl rfl rfl ?_
          refine ml_get (S' := (113, [(0, .ref o)], [.int u1], M)) rfl g2 rfl ?_
          refine ml_st (S' := (116, [(0, .ref o)], [.int 198, .int u1], M)) rfl rfl rfl ?_
          refine ml_if2 (S1 := (129, [(0, .ref o)], [], M)) (S2 := (119, [(0, .ref o)], [], M)) rfl rfl rfl (fun c_116 => ?_) (fun c_116 => ?_)
          · have c_116 : u1 = 198 := of_decide_eq_true c_116
            refine ml_blk 3 (S' := (132, [(0, .ref o)], [.ref o, .ref o, .ref o], M)) rfl ?_
            refine tg_int rfl hS.1.1.1 hY0 (by decide) rfl (fun u8 g9 => ?_)
            show ml _ _ _ (135, [(0, .ref o)], [.int u8, .ref o, .ref o], M) _
            refine ml_blk 2 (S' := (137, [(0, .ref o)], [.int (u8 + 1), .ref o, .ref o], M)) rfl ?_
            refine ml_call (a := [.ref o, .int (u8 + 1)]) (rest := [.ref o]) rfl (okc_t rfl rfl rfl hS.1.1.1 hY0 (by decide)) rfl rfl (ti_u2 hS.1.1.1 hY0 hY1 (by omega)) (fun v10 M11 h12 => ?_)
            obtain ⟨⟨u13, rfl⟩, h12⟩ := h12
            rw [h12]
            show ml _ _ _ (140, [(0, .ref o)], [.int u13, .ref o], M) _
            refine ml_blk 2 (S' := (142, [(0, .ref o)], [.ref o, .int (u13.toInt16.toInt32), .ref o], M)) rfl ?_
            refine ml_get (S' := (145, [(0, .ref o)], [.int u1, .int (u13.toInt16.toInt32), .ref o], M)) rfl g2 rfl ?_
            refine ml_call (a := [.ref o, .int (u13.toInt16.toInt32), .int u1]) (rest := []) rfl (okc_t rfl rfl rfl hS.1.1.1 hY0 (by decide)) rfl rfl (ti_isJumpTaken hS.1.1.1 hY0 hY1 (by omega)) (fun v14 M15 h16 => ?_)
            obtain ⟨⟨u17, rfl, z18⟩, h16⟩ := h16
            have hS19 := hS.tr h16
            show ml _ _ _ (148, [(0, .ref o)], [.int u17], M15) _
            exact ml_ret rfl (r_z (z18)) (⟨⟨_, rfl, z18⟩, hS19⟩)
          · have c_116 : ¬ (u1 = 198) := of_decide_eq_false c_116
            refine ml_st (S' := (120, [(0, .ref o)], [.ref o], M)) rfl rfl rfl ?_
            refine ml_get (S' := (123, [(0, .ref o)], [.int u1], M)) rfl g2 rfl ?_
            refine ml_st (S' := (126, [(0, .ref o)], [.int 199, .int u1], M)) rfl rfl rfl ?_
            refine ml_if2 (S1 := (149, [(0, .ref o)], [], M)) (S2 := (129, [(0, .ref o)], [], M)) rfl rfl rfl (fun c_126 => ?_) (fun c_126 => ?_)
            · have c_126 : ¬ u1 = 199 := of_decide_eq_true c_126
              refine ml_st (S' := (150, [(0, .ref o)], [.ref o], M)) rfl rfl rfl ?_
              refine ml_get (S' := (153, [(0, .ref o)], [.int u1], M)) rfl g2 rfl ?_
              refine ml_sw rfl (fun t_153 ht_153 => ?_)
              have kt_153 := ht_153
              have ht_153 : t_153 ∈ [228, 245, 262, 278, 300, 330, 348, 366] := mi_sw_sub ht_153 (by decide)
              simp only [List.mem_cons, List.not_mem_nil, or_false] at ht_153
              rcases ht_153 with rfl | rfl | rfl | rfl | rfl | rfl | rfl | rfl
              · show ml _ _ _ (228, [(0, .ref o)], [], M) _
                refine ml_blk 3 (S' := (231, [(0, .ref o)], [.ref o, .ref o, .ref o], M)) rfl ?_
                refine tg_int rfl hS.1.1.1 hY0 (by decide) rfl (fun u20 g21 => ?_)
                show ml _ _ _ (234, [(0, .ref o)], [.int u20, .ref o, .ref o], M) _
                refine ml_blk 2 (S' := (236, [(0, .ref o)], [.int (u20 + 1), .ref o, .ref o], M)) rfl ?_
                refine ml_call (a := [.ref o, .int (u20 + 1)]) (rest := [.ref o]) rfl (okc_t rfl rfl rfl hS.1.1.1 hY0 (by decide)) rfl rfl (ti_u1 hS.1.1.1 hY0 hY1 (by omega)) (fun v22 M23 h24 => ?_)
                obtain ⟨⟨u25, rfl⟩, h24⟩ := h24
                rw [h24]
                show ml _ _ _ (239, [(0, .ref o)], [.int u25, .ref o], M) _
                refine ml_st (S' := (240, [(0, .ref o)], [.int (u25.toInt8.toInt32), .ref o], M)) rfl rfl rfl ?_
                refine tp_put rfl hS.1.1 hY0 (by decide) rfl (⟨_, rfl⟩) rfl rfl (fun M26 hS27 f28 => ?_)
                have hS29 := hS.put hS27 f28 rfl
                show ml _ _ _ (243, [(0, .ref o)], [], M26) _
                refine ml_st (S' := (244, [(0, .ref o)], [.int 1], M26)) rfl rfl rfl ?_
                exact ml_ret rfl (r_z (Or.inr rfl)) (⟨⟨_, rfl, Or.inr rfl⟩, hS29⟩)
              · show ml _ _ _ (245, [(0, .ref o)], [], M) _
                refine ml_blk 3 (S' := (248, [(0, .ref o)], [.ref o, .ref o, .ref o], M)) rfl ?_
                refine tg_int rfl hS.1.1.1 hY0 (by decide) rfl (fun u30 g31 => ?_)
                show ml _ _ _ (251, [(0, .ref o)], [.int u30, .ref o, .ref o], M) _
                refine ml_blk 2 (S' := (253, [(0, .ref o)], [.int (u30 + 1), .ref o, .ref o], M)) rfl ?_
                refine ml_call (a := [.ref o, .int (u30 + 1)]) (rest := [.ref o]) rfl (okc_t rfl rfl rfl hS.1.1.1 hY0 (by decide)) rfl rfl (ti_u2 hS.1.1.1 hY0 hY1 (by omega)) (fun v32 M33 h34 => ?_)
                obtain ⟨⟨u35, rfl⟩, h34⟩ := h34
                rw [h34]
                show ml _ _ _ (256, [(0, .ref o)], [.int u35, .ref o], M) _
                refine ml_st (S' := (257, [(0, .ref o)], [.int (u35.toInt16.toInt32), .ref o], M)) rfl rfl rfl ?_
                refine tp_put rfl hS.1.1 hY0 (by decide) rfl (⟨_, rfl⟩) rfl rfl (fun M36 hS37 f38 => ?_)
                have hS39 := hS.put hS37 f38 rfl
                show ml _ _ _ (260, [(0, .ref o)], [], M36) _
                refine ml_st (S' := (261, [(0, .ref o)], [.int 1], M36)) rfl rfl rfl ?_
                exact ml_ret rfl (r_z (Or.inr rfl)) (⟨⟨_, rfl, Or.inr rfl⟩, hS39⟩)
              · show ml _ _ _ (262, [(0, .ref o)], [], M) _
                refine ml_blk 3 (S' := (265, [(0, .ref o)], [.ref o, .ref o, .ref o], M)) rfl ?_
                refine tg_int rfl hS.1.1.1 hY0 (by decide) rfl (fun u40 g41 => ?_)
                show ml _ _ _ (268, [(0, .ref o)], [.int u40, .ref o, .ref o], M) _
                refine ml_blk 2 (S' := (270, [(0, .ref o)], [.int (u40 + 1), .ref o, .ref o], M)) rfl ?_
                refine ml_call (a := [.ref o, .int (u40 + 1)]) (rest := [.ref o]) rfl (okc_t rfl rfl rfl hS.1.1.1 hY0 (by decide)) rfl rfl (ti_u1 hS.1.1.1 hY0 hY1 (by omega)) (fun v42 M43 h44 => ?_)
                obtain ⟨⟨u45, rfl⟩, h44⟩ := h44
                rw [h44]
                show ml _ _ _ (273, [(0, .ref o)], [.int u45, .ref o], M) _
                refine tp_put rfl hS.1.1 hY0 (by decide) rfl (⟨_, rfl⟩) rfl rfl (fun M46 hS47 f48 => ?_)
                have hS49 := hS.put hS47 f48 rfl
                show ml _ _ _ (276, [(0, .ref o)], [], M46) _
                refine ml_st (S' := (277, [(0, .ref o)], [.int 1], M46)) rfl rfl rfl ?_
                exact ml_ret rfl (r_z (Or.inr rfl)) (⟨⟨_, rfl, Or.inr rfl⟩, hS49⟩)
              · show ml _ _ _ (278, [(0, .ref o)], [], M) _
                refine ml_blk 2 (S' := (281, [(0, .ref o)], [.int 18, .ref o], M)) rfl ?_
                refine tp_put rfl hS.1.1 hY0 (by decide) rfl (⟨_, rfl⟩) rfl rfl (fun M50 hS51 f52 => ?_)
                have hS53 := hS.put hS51 f52 rfl
                show ml _ _ _ (284, [(0, .ref o)], [], M50) _
                refine ml_blk 3 (S' := (287, [(0, .ref o)], [.ref o, .ref o, .ref o], M50)) rfl ?_
                refine tg_int rfl hS53.1.1.1 hY0 (by decide) rfl (fun u54 g55 => ?_)
                show ml _ _ _ (290, [(0, .ref o)], [.int u54, .ref o, .ref o], M50) _
                refine ml_blk 2 (S' := (292, [(0, .ref o)], [.int (u54 + 1), .ref o, .ref o], M50)) rfl ?_
                refine ml_call (a := [.ref o, .int (u54 + 1)]) (rest := [.ref o]) rfl (okc_t rfl rfl rfl hS53.1.1.1 hY0 (by decide)) rfl rfl (ti_u2 hS53.1.1.1 hY0 hY1 (by omega)) (fun v56 M57 h58 => ?_)
                obtain ⟨⟨u59, rfl⟩, h58⟩ := h58
                rw [h58]
                show ml _ _ _ (295, [(0, .ref o)], [.int u59, .ref o], M50) _
                refine tp_put rfl hS53.1.1 hY0 (by decide) rfl (⟨_, rfl⟩) rfl rfl (fun M60 hS61 f62 => ?_)
                have hS63 := hS53.put hS61 f62 rfl
                show ml _ _ _ (298, [(0, .ref o)], [], M60) _
                refine ml_st (S' := (299, [(0, .ref o)], [.int 1], M60)) rfl rfl rfl ?_
                exact ml_ret rfl (r_z (Or.inr rfl)) (⟨⟨_, rfl, Or.inr rfl⟩, hS63⟩)
              · show ml _ _ _ (300, [(0, .ref o)], [], M) _
                refine ml_blk 3 (S' := (303, [(0, .ref o)], [.ref o, .ref o, .ref o], M)) rfl ?_
                refine tg_int rfl hS.1.1.1 hY0 (by decide) rfl (fun u64 g65 => ?_)
                show ml _ _ _ (306, [(0, .ref o)], [.int u64, .ref o, .ref o], M) _
                refine ml_blk 2 (S' := (308, [(0, .ref o)], [.int (u64 + 2), .ref o, .ref o], M)) rfl ?_
                refine ml_call (a := [.ref o, .int (u64 + 2)]) (rest := [.ref o]) rfl (okc_t rfl rfl rfl hS.1.1.1 hY0 (by decide)) rfl rfl (ti_u1 hS.1.1.1 hY0 hY1 (by omega)) (fun v66 M67 h68 => ?_)
                obtain ⟨⟨u69, rfl⟩, h68⟩ := h68
                rw [h68]
                show ml _ _ _ (311, [(0, .ref o)], [.int u69, .ref o], M) _
                refine ml_st (S' := (312, [(0, .ref o)], [.int (u69.toInt8.toInt32), .ref o], M)) rfl rfl rfl ?_
                refine tp_put rfl hS.1.1 hY0 (by decide) rfl (⟨_, rfl⟩) rfl rfl (fun M70 hS71 f72 => ?_)
                have hS73 := hS.put hS71 f72 rfl
                show ml _ _ _ (315, [(0, .ref o)], [], M70) _
                refine ml_blk 3 (S' := (318, [(0, .ref o)], [.ref o, .ref o, .ref o], M70)) rfl ?_
                refine tg_int rfl hS73.1.1.1 hY0 (by decide) rfl (fun u74 g75 => ?_)
                show ml _ _ _ (321, [(0, .ref o)], [.int u74, .ref o, .ref o], M70) _
                refine ml_blk 2 (S' := (323, [(0, .ref o)], [.int (u74 + 1), .ref o, .ref o], M70)) rfl ?_
                refine ml_call (a := [.ref o, .int (u74 + 1)]) (rest := [.ref o]) rfl (okc_t rfl rfl rfl hS73.1.1.1 hY0 (by decide)) rfl rfl (ti_u1 hS73.1.1.1 hY0 hY1 (by omega)) (fun v76 M77 h78 => ?_)
                obtain ⟨⟨u79, rfl⟩, h78⟩ := h78
                rw [h78]
                show ml _ _ _ (326, [(0, .ref o)], [.int u79, .ref o], M70) _
                refine ml_call (a := [.ref o, .int u79]) (rest := []) rfl (okc_t rfl rfl rfl hS73.1.1.1 hY0 (by decide)) rfl rfl (ti_isLocalTaken hS73.1.1.1 hY0 hY1 (by omega)) (fun v80 M81 h82 => ?_)
                obtain ⟨⟨u83, rfl, z84⟩, h82⟩ := h82
                have hS85 := hS73.tr h82
                show ml _ _ _ (329, [(0, .ref o)], [.int u83], M81) _
                exact ml_ret rfl (r_z (z84)) (⟨⟨_, rfl, z84⟩, hS85⟩)
              · show ml _ _ _ (330, [(0, .ref o)], [], M) _
                refine ml_blk 3 (S' := (333, [(0, .ref o)], [.ref o, .ref o, .ref o], M)) rfl ?_
                refine tg_int rfl hS.1.1.1 hY0 (by decide) rfl (fun u86 g87 => ?_)
                show ml _ _ _ (336, [(0, .ref o)], [.int u86, .ref o, .ref o], M) _
                refine ml_blk 2 (S' := (338, [(0, .ref o)], [.int (u86 + 1), .ref o, .ref o], M)) rfl ?_
                refine ml_call (a := [.ref o, .int (u86 + 1)]) (rest := [.ref o]) rfl (okc_t rfl rfl rfl hS.1.1.1 hY0 (by decide)) rfl rfl (ti_s4 hS.1.1.1 hY0 hY1 (by omega)) (fun v88 M89 h90 => ?_)
                obtain ⟨⟨u91, rfl⟩, h90⟩ := h90
                rw [h90]
                show ml _ _ _ (341, [(0, .ref o)], [.int u91, .ref o], M) _
                refine ml_st (S' := (344, [(0, .ref o)], [.int 167, .int u91, .ref o], M)) rfl rfl rfl ?_
                refine ml_call (a := [.ref o, .int u91, .int 167]) (rest := []) rfl (okc_t rfl rfl rfl hS.1.1.1 hY0 (by decide)) rfl rfl (ti_isJumpTaken hS.1.1.1 hY0 hY1 (by omega)) (fun v92 M93 h94 => ?_)
                obtain ⟨⟨u95, rfl, z96⟩, h94⟩ := h94
                have hS97 := hS.tr h94
                show ml _ _ _ (347, [(0, .ref o)], [.int u95], M93) _
                exact ml_ret rfl (r_z (z96)) (⟨⟨_, rfl, z96⟩, hS97⟩)
              · show ml _ _ _ (348, [(0, .ref o)], [], M) _
                refine ml_blk 3 (S' := (351, [(0, .ref o)], [.ref o, .ref o, .ref o], M)) rfl ?_
                refine tg_int rfl hS.1.1.1 hY0 (by decide) rfl (fun u98 g99 => ?_)
                show ml _ _ _ (354, [(0, .ref o)], [.int u98, .ref o, .ref o], M) _
                refine ml_blk 2 (S' := (356, [(0, .ref o)], [.int (u98 + 1), .ref o, .ref o], M)) rfl ?_
                refine ml_call (a := [.ref o, .int (u98 + 1)]) (rest := [.ref o]) rfl (okc_t rfl rfl rfl hS.1.1.1 hY0 (by decide)) rfl rfl (ti_s4 hS.1.1.1 hY0 hY1 (by omega)) (fun v100 M101 h102 => ?_)
                obtain ⟨⟨u103, rfl⟩, h102⟩ := h102
                rw [h102]
                show ml _ _ _ (359, [(0, .ref o)], [.int u103, .ref o], M) _
                refine ml_st (S' := (362, [(0, .ref o)], [.int 168, .int u103, .ref o], M)) rfl rfl rfl ?_
                refine ml_call (a := [.ref o, .int u103, .int 168]) (rest := []) rfl (okc_t rfl rfl rfl hS.1.1.1 hY0 (by decide)) rfl rfl (ti_isJumpTaken hS.1.1.1 hY0 hY1 (by omega)) (fun v104 M105 h106 => ?_)
                obtain ⟨⟨u107, rfl, z108⟩, h106⟩ := h106
                have hS109 := hS.tr h106
                show ml _ _ _ (365, [(0, .ref o)], [.int u107], M105) _
                exact ml_ret rfl (r_z (z108)) (⟨⟨_, rfl, z108⟩, hS109⟩)
              · show ml _ _ _ (366, [(0, .ref o)], [], M) _
                refine ml_st (S' := (367, [(0, .ref o)], [.ref o], M)) rfl rfl rfl ?_
                refine ml_call (a := [.ref o]) (rest := []) rfl (okc_t rfl rfl rfl hS.1.1.1 hY0 (by decide)) rfl rfl (ti_isIndexTaken hS.1.1.1 hY0 hY1 (by omega)) (fun v110 M111 h112 => ?_)
                obtain ⟨⟨u113, rfl, z114⟩, h112⟩ := h112
                have hS115 := hS.tr h112
                show ml _ _ _ (370, [(0, .ref o)], [.int u113], M111) _
                exact ml_ret rfl (r_z (z114)) (⟨⟨_, rfl, z114⟩, hS115⟩)
            · have c_126 : ¬ (¬ u1 = 199) := of_decide_eq_false c_126
              refine ml_blk 3 (S' := (132, [(0, .ref o)], [.ref o, .ref o, .ref o], M)) rfl ?_
              refine tg_int rfl hS.1.1.1 hY0 (by decide) rfl (fun u116 g117 => ?_)
              show ml _ _ _ (135, [(0, .ref o)], [.int u116, .ref o, .ref o], M) _
              refine ml_blk 2 (S' := (137, [(0, .ref o)], [.int (u116 + 1), .ref o, .ref o], M)) rfl ?_
              refine ml_call (a := [.ref o, .int (u116 + 1)]) (rest := [.ref o]) rfl (okc_t rfl rfl rfl hS.1.1.1 hY0 (by decide)) rfl rfl (ti_u2 hS.1.1.1 hY0 hY1 (by omega)) (fun v118 M119 h120 => ?_)
              obtain ⟨⟨u121, rfl⟩, h120⟩ := h120
              rw [h120]
              show ml _ _ _ (140, [(0, .ref o)], [.int u121, .ref o], M) _
              refine ml_blk 2 (S' := (142, [(0, .ref o)], [.ref o, .int (u121.toInt16.toInt32), .ref o], M)) rfl ?_
              refine ml_get (S' := (145, [(0, .ref o)], [.int u1, .int (u121.toInt16.toInt32), .ref o], M)) rfl g2 rfl ?_
              refine ml_call (a := [.ref o, .int (u121.toInt16.toInt32), .int u1]) (rest := []) rfl (okc_t rfl rfl rfl hS.1.1.1 hY0 (by decide)) rfl rfl (ti_isJumpTaken hS.1.1.1 hY0 hY1 (by omega)) (fun v122 M123 h124 => ?_)
              obtain ⟨⟨u125, rfl, z126⟩, h124⟩ := h124
              have hS127 := hS.tr h124
              show ml _ _ _ (148, [(0, .ref o)], [.int u125], M123) _
              exact ml_ret rfl (r_z (z126)) (⟨⟨_, rfl, z126⟩, hS127⟩)
        refine ml_if2 (S1 := (109, [(0, .ref o)], [], M)) (S2 := (99, [(0, .ref o)], [], M)) rfl rfl rfl (fun c_96 => ?_) (fun c_96 => ?_)
        · have c_96 : u1 < 153 := of_decide_eq_true c_96
          exact J_109 
        · have c_96 : ¬ (u1 < 153) := of_decide_eq_false c_96
          refine ml_st (S' := (100, [(0, .ref o)], [.ref o], M)) rfl rfl rfl ?_
          refine ml_get (S' := (103, [(0, .ref o)], [.int u1], M)) rfl g2 rfl ?_
          refine ml_st (S' := (106, [(0, .ref o)], [.int 168, .int u1], M)) rfl rfl rfl ?_
          refine ml_if2 (S1 := (129, [(0, .ref o)], [], M)) (S2 := (109, [(0, .ref o)], [], M)) rfl rfl rfl (fun c_106 => ?_) (fun c_106 => ?_)
          · have c_106 : u1 ≤ 168 := of_decide_eq_true c_106
            refine ml_blk 3 (S' := (132, [(0, .ref o)], [.ref o, .ref o, .ref o], M)) rfl ?_
            refine tg_int rfl hS.1.1.1 hY0 (by decide) rfl (fun u128 g129 => ?_)
            show ml _ _ _ (135, [(0, .ref o)], [.int u128, .ref o, .ref o], M) _
            refine ml_blk 2 (S' := (137, [(0, .ref o)], [.int (u128 + 1), .ref o, .ref o], M)) rfl ?_
            refine ml_call (a := [.ref o, .int (u128 + 1)]) (rest := [.ref o]) rfl (okc_t rfl rfl rfl hS.1.1.1 hY0 (by decide)) rfl rfl (ti_u2 hS.1.1.1 hY0 hY1 (by omega)) (fun v130 M131 h132 => ?_)
            obtain ⟨⟨u133, rfl⟩, h132⟩ := h132
            rw [h132]
            show ml _ _ _ (140, [(0, .ref o)], [.int u133, .ref o], M) _
            refine ml_blk 2 (S' := (142, [(0, .ref o)], [.ref o, .int (u133.toInt16.toInt32), .ref o], M)) rfl ?_
            refine ml_get (S' := (145, [(0, .ref o)], [.int u1, .int (u133.toInt16.toInt32), .ref o], M)) rfl g2 rfl ?_
            refine ml_call (a := [.ref o, .int (u133.toInt16.toInt32), .int u1]) (rest := []) rfl (okc_t rfl rfl rfl hS.1.1.1 hY0 (by decide)) rfl rfl (ti_isJumpTaken hS.1.1.1 hY0 hY1 (by omega)) (fun v134 M135 h136 => ?_)
            obtain ⟨⟨u137, rfl, z138⟩, h136⟩ := h136
            have hS139 := hS.tr h136
            show ml _ _ _ (148, [(0, .ref o)], [.int u137], M135) _
            exact ml_ret rfl (r_z (z138)) (⟨⟨_, rfl, z138⟩, hS139⟩)
          · have c_106 : ¬ (u1 ≤ 168) := of_decide_eq_false c_106
            exact J_109 
      · have c_71 : ¬ (u6 = 0) := of_decide_eq_false c_71
        refine ml_blk 3 (S' := (77, [(0, .ref o)], [.ref o, .ref o, .ref o], M)) rfl ?_
        refine tg_int rfl hS.1.1.1 hY0 (by decide) rfl (fun u140 g141 => ?_)
        show ml _ _ _ (80, [(0, .ref o)], [.int u140, .ref o, .ref o], M) _
        refine ml_blk 2 (S' := (82, [(0, .ref o)], [.int (u140 + 1), .ref o, .ref o], M)) rfl ?_
        refine ml_call (a := [.ref o, .int (u140 + 1)]) (rest := [.ref o]) rfl (okc_t rfl rfl rfl hS.1.1.1 hY0 (by decide)) rfl rfl (ti_u1 hS.1.1.1 hY0 hY1 (by omega)) (fun v142 M143 h144 => ?_)
        obtain ⟨⟨u145, rfl⟩, h144⟩ := h144
        rw [h144]
        show ml _ _ _ (85, [(0, .ref o)], [.int u145, .ref o], M) _
        refine ml_call (a := [.ref o, .int u145]) (rest := []) rfl (okc_t rfl rfl rfl hS.1.1.1 hY0 (by decide)) rfl rfl (ti_isLocalTaken hS.1.1.1 hY0 hY1 (by omega)) (fun v146 M147 h148 => ?_)
        obtain ⟨⟨u149, rfl, z150⟩, h148⟩ := h148
        have hS151 := hS.tr h148
        show ml _ _ _ (88, [(0, .ref o)], [.int u149], M147) _
        exact ml_ret rfl (r_z (z150)) (⟨⟨_, rfl, z150⟩, hS151⟩)
    refine ml_if2 (S1 := (64, [(0, .ref o)], [], M)) (S2 := (41, [(0, .ref o)], [], M)) rfl rfl rfl (fun c_38 => ?_) (fun c_38 => ?_)
    · have c_38 : u1 < 59 := of_decide_eq_true c_38
      exact J_64 
    · have c_38 : ¬ (u1 < 59) := of_decide_eq_false c_38
      refine ml_st (S' := (42, [(0, .ref o)], [.ref o], M)) rfl rfl rfl ?_
      refine ml_get (S' := (45, [(0, .ref o)], [.int u1], M)) rfl g2 rfl ?_
      refine ml_st (S' := (47, [(0, .ref o)], [.int 78, .int u1], M)) rfl rfl rfl ?_
      refine ml_if2 (S1 := (64, [(0, .ref o)], [], M)) (S2 := (50, [(0, .ref o)], [], M)) rfl rfl rfl (fun c_47 => ?_) (fun c_47 => ?_)
      · have c_47 : 78 < u1 := of_decide_eq_true c_47
        exact J_64 
      · have c_47 : ¬ (78 < u1) := of_decide_eq_false c_47
        refine ml_blk 2 (S' := (52, [(0, .ref o)], [.ref o, .ref o], M)) rfl ?_
        refine ml_get (S' := (55, [(0, .ref o)], [.int u1, .ref o], M)) rfl g2 rfl ?_
        refine ml_blk 3 (S' := (60, [(0, .ref o)], [.int 54, .int (u1 - 59), .ref o], M)) rfl ?_
        refine ml_call (a := [.ref o, .int (u1 - 59), .int 54]) (rest := []) rfl (okc_t rfl rfl rfl hS.1.1.1 hY0 (by decide)) rfl rfl (ti_isShortLocalTaken hS.1.1.1 hY0 hY1 (by omega)) (fun v152 M153 h154 => ?_)
        obtain ⟨⟨u155, rfl, z156⟩, h154⟩ := h154
        have hS157 := hS.tr h154
        show ml _ _ _ (63, [(0, .ref o)], [.int u155], M153) _
        exact ml_ret rfl (r_z (z156)) (⟨⟨_, rfl, z156⟩, hS157⟩)
  refine ml_if2 (S1 := (32, [(0, .ref o)], [], M)) (S2 := (9, [(0, .ref o)], [], M)) rfl rfl rfl (fun c_6 => ?_) (fun c_6 => ?_)
  · have c_6 : u1 < 26 := of_decide_eq_true c_6
    exact J_32 
  · have c_6 : ¬ (u1 < 26) := of_decide_eq_false c_6
    refine ml_st (S' := (10, [(0, .ref o)], [.ref o], M)) rfl rfl rfl ?_
    refine ml_get (S' := (13, [(0, .ref o)], [.int u1], M)) rfl g2 rfl ?_
    refine ml_st (S' := (15, [(0, .ref o)], [.int 45, .int u1], M)) rfl rfl rfl ?_
    refine ml_if2 (S1 := (32, [(0, .ref o)], [], M)) (S2 := (18, [(0, .ref o)], [], M)) rfl rfl rfl (fun c_15 => ?_) (fun c_15 => ?_)
    · have c_15 : 45 < u1 := of_decide_eq_true c_15
      exact J_32 
    · have c_15 : ¬ (45 < u1) := of_decide_eq_false c_15
      refine ml_blk 2 (S' := (20, [(0, .ref o)], [.ref o, .ref o], M)) rfl ?_
      refine ml_get (S' := (23, [(0, .ref o)], [.int u1, .ref o], M)) rfl g2 rfl ?_
      refine ml_blk 3 (S' := (28, [(0, .ref o)], [.int 21, .int (u1 - 26), .ref o], M)) rfl ?_
      refine ml_call (a := [.ref o, .int (u1 - 26), .int 21]) (rest := []) rfl (okc_t rfl rfl rfl hS.1.1.1 hY0 (by decide)) rfl rfl (ti_isShortLocalTaken hS.1.1.1 hY0 hY1 (by omega)) (fun v158 M159 h160 => ?_)
      obtain ⟨⟨u161, rfl, z162⟩, h160⟩ := h160
      have hS163 := hS.tr h160
      show ml _ _ _ (31, [(0, .ref o)], [.int u161], M159) _
      exact ml_ret rfl (r_z (z162)) (⟨⟨_, rfl, z162⟩, hS163⟩)
set_option maxHeartbeats 2000000 in
theorem ti_isWideTaken {g : xe_G} {M : mi_H} {Y : yT} {o b k da n : Nat} {cl y9 : Int32} (hW : WF g Y M) (hY0 : Y.1 o = some (5, [b, k])) (hY1 : Y.1 b = some (1, [da, n])) (hc2 : mi_gf M o 5 2 = some (.int cl)) (hc9 : mi_gf M o 5 9 = some (.int y9)) (hk : k < 1073741824) (hcl : cl.toInt ≤ k) (h0 : 0 ≤ y9.toInt) (hp : y9.toInt < cl.toInt) {d : Nat} (hd : 3 ≤ d) : mt (mT g) d 99 [.ref o] M (qS g Y o k y9 M) := by
  obtain ⟨d, rfl⟩ : ∃ e, d = e + 1 := ⟨d - 1, by omega⟩
  have hS : sf g Y [o] M M := sf.rf hW
  refine mt_in (b := mb_99 g) rfl rfl ?_
  show ml (mT g) d (mb_99 g).2 (0, [(0, .ref o)], [], M) _
  refine ml_st (S' := (1, [(0, .ref o)], [.ref o], M)) rfl rfl rfl ?_
  refine ml_get (S' := (4, [(0, .ref o)], [.int cl], M)) rfl hc2 rfl ?_
  refine ml_st (S' := (5, [(0, .ref o)], [.ref o, .int cl], M)) rfl rfl rfl ?_
  refine ml_get (S' := (8, [(0, .ref o)], [.int y9, .int cl], M)) rfl hc9 rfl ?_
  refine ml_blk 2 (S' := (10, [(0, .ref o)], [.int 4, .int (cl - y9)], M)) rfl ?_
  refine ml_if2 (S1 := (15, [(0, .ref o)], [], M)) (S2 := (13, [(0, .ref o)], [], M)) rfl rfl rfl (fun c_10 => ?_) (fun c_10 => ?_)
  · have c_10 : 4 ≤ (cl - y9) := of_decide_eq_true c_10
    refine ml_blk 3 (S' := (18, [(0, .ref o)], [.ref o, .ref o, .ref o], M)) rfl ?_
    refine ml_get (S' := (21, [(0, .ref o)], [.int y9, .ref o, .ref o], M)) rfl hc9 rfl ?_
    refine ml_blk 2 (S' := (23, [(0, .ref o)], [.int (y9 + 1), .ref o, .ref o], M)) rfl ?_
    refine ml_call (a := [.ref o, .int (y9 + 1)]) (rest := [.ref o]) rfl (okc_t rfl rfl rfl hS.1.1 hY0 (by decide)) rfl rfl (ti_u1 hS.1.1 hY0 hY1 (by omega)) (fun v1 M2 h3 => ?_)
    obtain ⟨⟨u4, rfl⟩, h3⟩ := h3
    rw [h3]
    show ml _ _ _ (26, [(0, .ref o)], [.int u4, .ref o], M) _
    refine tp_put rfl hS.1 hY0 (by decide) rfl (⟨_, rfl⟩) rfl rfl (fun M5 hS6 f7 => ?_)
    have hS8 := hS.put hS6 f7 (by simp)
    have g9 := f7.2.1 2 _ (by decide) hc2
    have g10 := f7.2.1 9 _ (by decide) hc9
    show ml _ _ _ (29, [(0, .ref o)], [], M5) _
    refine ml_st (S' := (30, [(0, .ref o)], [.ref o], M5)) rfl rfl rfl ?_
    refine ml_get (S' := (33, [(0, .ref o)], [.int u4], M5)) rfl f7.2.2.1 rfl ?_
    refine ml_st (S' := (36, [(0, .ref o)], [.int 132, .int u4], M5)) rfl rfl rfl ?_
    refine ml_if2 (S1 := (63, [(0, .ref o)], [], M5)) (S2 := (39, [(0, .ref o)], [], M5)) rfl rfl rfl (fun c_36 => ?_) (fun c_36 => ?_)
    · have c_36 : ¬ u4 = 132 := of_decide_eq_true c_36
      refine ml_blk 2 (S' := (65, [(0, .ref o)], [.int 4, .ref o], M5)) rfl ?_
      refine tp_put rfl hS8.1 hY0 (by decide) rfl (⟨_, rfl⟩) rfl rfl (fun M11 hS12 f13 => ?_)
      have hS14 := hS8.put hS12 f13 (by simp)
      have g15 := f13.2.1 2 _ (by decide) g9
      have g16 := f13.2.1 9 _ (by decide) g10
      show ml _ _ _ (68, [(0, .ref o)], [], M11) _
      refine ml_st (S' := (69, [(0, .ref o)], [.ref o], M11)) rfl rfl rfl ?_
      refine ml_get (S' := (72, [(0, .ref o)], [.int 4], M11)) rfl f13.2.2.1 rfl ?_
      refine ml_st (S' := (73, [(0, .ref o)], [.ref o, .int 4], M11)) rfl rfl rfl ?_
      refine ml_get (S' := (76, [(0, .ref o)], [.int cl, .int 4], M11)) rfl g15 rfl ?_
      refine ml_st (S' := (77, [(0, .ref o)], [.ref o, .int cl, .int 4], M11)) rfl rfl rfl ?_
      refine ml_get (S' := (80, [(0, .ref o)], [.int y9, .int cl, .int 4], M11)) rfl g16 rfl ?_
      refine ml_st (S' := (81, [(0, .ref o)], [.int (cl - y9), .int 4], M11)) rfl rfl rfl ?_
      refine ml_if2 (S1 := (104, [], [], M11)) (S2 := (84, [(0, .ref o)], [], M11)) rfl rfl rfl (fun c_81 => ?_) (fun c_81 => ?_)
      · have c_81 : (cl - y9) < 4 := of_decide_eq_true c_81
        refine ml_st (S' := (105, [], [.int 0], M11)) rfl rfl rfl ?_
        exact ml_ret rfl (r_z (Or.inl rfl)) (⟨⟨_, rfl, Or.inl rfl⟩, hS14⟩)
      · have c_81 : ¬ ((cl - y9) < 4) := of_decide_eq_false c_81
        refine ml_st (S' := (85, [(0, .ref o)], [.ref o], M11)) rfl rfl rfl ?_
        refine tg_int rfl hS14.1.1 hY0 (by decide) rfl (fun u17 g18 => ?_)
        show ml _ _ _ (88, [(0, .ref o)], [.int u17], M11) _
        refine ml_st (S' := (91, [(0, .ref o)], [.int 132, .int u17], M11)) rfl rfl rfl ?_
        refine ml_if2 (S1 := (106, [(0, .ref o)], [], M11)) (S2 := (94, [(0, .ref o)], [], M11)) rfl rfl rfl (fun c_91 => ?_) (fun c_91 => ?_)
        · have c_91 : u17 = 132 := of_decide_eq_true c_91
          refine ml_blk 3 (S' := (109, [(0, .ref o)], [.ref o, .ref o, .ref o], M11)) rfl ?_
          refine ml_get (S' := (112, [(0, .ref o)], [.int y9, .ref o, .ref o], M11)) rfl g16 rfl ?_
          refine ml_blk 2 (S' := (114, [(0, .ref o)], [.int (y9 + 2), .ref o, .ref o], M11)) rfl ?_
          refine ml_call (a := [.ref o, .int (y9 + 2)]) (rest := [.ref o]) rfl (okc_t rfl rfl rfl hS14.1.1 hY0 (by decide)) rfl rfl (ti_u2 hS14.1.1 hY0 hY1 (by omega)) (fun v19 M20 h21 => ?_)
          obtain ⟨⟨u22, rfl⟩, h21⟩ := h21
          rw [h21]
          show ml _ _ _ (117, [(0, .ref o)], [.int u22, .ref o], M11) _
          refine ml_call (a := [.ref o, .int u22]) (rest := []) rfl (okc_t rfl rfl rfl hS14.1.1 hY0 (by decide)) rfl rfl (ti_isLocalTaken hS14.1.1 hY0 hY1 (by omega)) (fun v23 M24 h25 => ?_)
          obtain ⟨⟨u26, rfl, z27⟩, h25⟩ := h25
          have g28 := h25.2 2 _ rfl g15
          have g29 := h25.2 9 _ rfl g16
          have g30 := h25.2 4 _ rfl f13.2.2.1
          have hS31 := hS14.tr h25.1 (by simp)
          show ml _ _ _ (120, [(0, .ref o)], [.int u26], M24) _
          exact ml_ret rfl (r_z (z27)) (⟨⟨_, rfl, (z27).imp id (fun h => ⟨h, _, g30, by decide, sz_in hk hcl h0 hp (Int32.not_lt.mp c_81)⟩)⟩, hS31⟩)
        · have c_91 : ¬ (u17 = 132) := of_decide_eq_false c_91
          refine ml_st (S' := (95, [(0, .ref o)], [.ref o], M11)) rfl rfl rfl ?_
          refine ml_get (S' := (98, [(0, .ref o)], [.int u17], M11)) rfl g18 rfl ?_
          refine ml_call (a := [.int u17]) (rest := []) rfl (rfl) rfl rfl (ti_isLocalOpcode hS14.1.1  (by omega)) (fun v32 M33 h34 => ?_)
          obtain ⟨⟨u35, rfl, z36⟩, h34⟩ := h34
          rw [h34]
          show ml _ _ _ (101, [(0, .ref o)], [.int u35], M11) _
          refine ml_if (S1 := (106, [(0, .ref o)], [], M11)) (S2 := (104, [], [], M11)) rfl rfl rfl (fun c_101 => ?_) (fun c_101 => ?_)
          · have c_101 : ¬ u35 = 0 := of_decide_eq_true c_101
            refine ml_blk 3 (S' := (109, [(0, .ref o)], [.ref o, .ref o, .ref o], M11)) rfl ?_
            refine ml_get (S' := (112, [(0, .ref o)], [.int y9, .ref o, .ref o], M11)) rfl g16 rfl ?_
            refine ml_blk 2 (S' := (114, [(0, .ref o)], [.int (y9 + 2), .ref o, .ref o], M11)) rfl ?_
            refine ml_call (a := [.ref o, .int (y9 + 2)]) (rest := [.ref o]) rfl (okc_t rfl rfl rfl hS14.1.1 hY0 (by decide)) rfl rfl (ti_u2 hS14.1.1 hY0 hY1 (by omega)) (fun v37 M38 h39 => ?_)
            obtain ⟨⟨u40, rfl⟩, h39⟩ := h39
            rw [h39]
            show ml _ _ _ (117, [(0, .ref o)], [.int u40, .ref o], M11) _
            refine ml_call (a := [.ref o, .int u40]) (rest := []) rfl (okc_t rfl rfl rfl hS14.1.1 hY0 (by decide)) rfl rfl (ti_isLocalTaken hS14.1.1 hY0 hY1 (by omega)) (fun v41 M42 h43 => ?_)
            obtain ⟨⟨u44, rfl, z45⟩, h43⟩ := h43
            have g46 := h43.2 2 _ rfl g15
            have g47 := h43.2 9 _ rfl g16
            have g48 := h43.2 4 _ rfl f13.2.2.1
            have hS49 := hS14.tr h43.1 (by simp)
            show ml _ _ _ (120, [(0, .ref o)], [.int u44], M42) _
            exact ml_ret rfl (r_z (z45)) (⟨⟨_, rfl, (z45).imp id (fun h => ⟨h, _, g48, by decide, sz_in hk hcl h0 hp (Int32.not_lt.mp c_81)⟩)⟩, hS49⟩)
          · have c_101 : ¬ (¬ u35 = 0) := of_decide_eq_false c_101
            refine ml_st (S' := (105, [], [.int 0], M11)) rfl rfl rfl ?_
            exact ml_ret rfl (r_z (Or.inl rfl)) (⟨⟨_, rfl, Or.inl rfl⟩, hS14⟩)
    · have c_36 : ¬ (¬ u4 = 132) := of_decide_eq_false c_36
      refine ml_blk 2 (S' := (42, [(0, .ref o)], [.int 6, .ref o], M5)) rfl ?_
      refine tp_put rfl hS8.1 hY0 (by decide) rfl (⟨_, rfl⟩) rfl rfl (fun M50 hS51 f52 => ?_)
      have hS53 := hS8.put hS51 f52 (by simp)
      have g54 := f52.2.1 2 _ (by decide) g9
      have g55 := f52.2.1 9 _ (by decide) g10
      show ml _ _ _ (45, [(0, .ref o)], [], M50) _
      refine ml_blk 3 (S' := (48, [(0, .ref o)], [.ref o, .ref o, .ref o], M50)) rfl ?_
      refine ml_get (S' := (51, [(0, .ref o)], [.int y9, .ref o, .ref o], M50)) rfl g55 rfl ?_
      refine ml_blk 2 (S' := (53, [(0, .ref o)], [.int (y9 + 4), .ref o, .ref o], M50)) rfl ?_
      refine ml_call (a := [.ref o, .int (y9 + 4)]) (rest := [.ref o]) rfl (okc_t rfl rfl rfl hS53.1.1 hY0 (by decide)) rfl rfl (ti_u2 hS53.1.1 hY0 hY1 (by omega)) (fun v56 M57 h58 => ?_)
      obtain ⟨⟨u59, rfl⟩, h58⟩ := h58
      rw [h58]
      show ml _ _ _ (56, [(0, .ref o)], [.int u59, .ref o], M50) _
      refine ml_st (S' := (57, [(0, .ref o)], [.int (u59.toInt16.toInt32), .ref o], M50)) rfl rfl rfl ?_
      refine tp_put rfl hS53.1 hY0 (by decide) rfl (⟨_, rfl⟩) rfl rfl (fun M60 hS61 f62 => ?_)
      have hS63 := hS53.put hS61 f62 (by simp)
      have g64 := f62.2.1 2 _ (by decide) g54
      have g65 := f62.2.1 9 _ (by decide) g55
      have g66 := f62.2.1 4 _ (by decide) f52.2.2.1
      show ml _ _ _ (60, [(0, .ref o)], [], M60) _
      refine ml_st (S' := (68, [(0, .ref o)], [], M60)) rfl rfl rfl ?_
      refine ml_st (S' := (69, [(0, .ref o)], [.ref o], M60)) rfl rfl rfl ?_
      refine ml_get (S' := (72, [(0, .ref o)], [.int 6], M60)) rfl g66 rfl ?_
      refine ml_st (S' := (73, [(0, .ref o)], [.ref o, .int 6], M60)) rfl rfl rfl ?_
      refine ml_get (S' := (76, [(0, .ref o)], [.int cl, .int 6], M60)) rfl g64 rfl ?_
      refine ml_st (S' := (77, [(0, .ref o)], [.ref o, .int cl, .int 6], M60)) rfl rfl rfl ?_
      refine ml_get (S' := (80, [(0, .ref o)], [.int y9, .int cl, .int 6], M60)) rfl g65 rfl ?_
      refine ml_st (S' := (81, [(0, .ref o)], [.int (cl - y9), .int 6], M60)) rfl rfl rfl ?_
      refine ml_if2 (S1 := (104, [], [], M60)) (S2 := (84, [(0, .ref o)], [], M60)) rfl rfl rfl (fun c_81 => ?_) (fun c_81 => ?_)
      · have c_81 : (cl - y9) < 6 := of_decide_eq_true c_81
        refine ml_st (S' := (105, [], [.int 0], M60)) rfl rfl rfl ?_
        exact ml_ret rfl (r_z (Or.inl rfl)) (⟨⟨_, rfl, Or.inl rfl⟩, hS63⟩)
      · have c_81 : ¬ ((cl - y9) < 6) := of_decide_eq_false c_81
        refine ml_st (S' := (85, [(0, .ref o)], [.ref o], M60)) rfl rfl rfl ?_
        refine tg_int rfl hS63.1.1 hY0 (by decide) rfl (fun u67 g68 => ?_)
        show ml _ _ _ (88, [(0, .ref o)], [.int u67], M60) _
        refine ml_st (S' := (91, [(0, .ref o)], [.int 132, .int u67], M60)) rfl rfl rfl ?_
        refine ml_if2 (S1 := (106, [(0, .ref o)], [], M60)) (S2 := (94, [(0, .ref o)], [], M60)) rfl rfl rfl (fun c_91 => ?_) (fun c_91 => ?_)
        · have c_91 : u67 = 132 := of_decide_eq_true c_91
          refine ml_blk 3 (S' := (109, [(0, .ref o)], [.ref o, .ref o, .ref o], M60)) rfl ?_
          refine ml_get (S' := (112, [(0, .ref o)], [.int y9, .ref o, .ref o], M60)) rfl g65 rfl ?_
          refine ml_blk 2 (S' := (114, [(0, .ref o)], [.int (y9 + 2), .ref o, .ref o], M60)) rfl ?_
          refine ml_call (a := [.ref o, .int (y9 + 2)]) (rest := [.ref o]) rfl (okc_t rfl rfl rfl hS63.1.1 hY0 (by decide)) rfl rfl (ti_u2 hS63.1.1 hY0 hY1 (by omega)) (fun v69 M70 h71 => ?_)
          obtain ⟨⟨u72, rfl⟩, h71⟩ := h71
          rw [h71]
          show ml _ _ _ (117, [(0, .ref o)], [.int u72, .ref o], M60) _
          refine ml_call (a := [.ref o, .int u72]) (rest := []) rfl (okc_t rfl rfl rfl hS63.1.1 hY0 (by decide)) rfl rfl (ti_isLocalTaken hS63.1.1 hY0 hY1 (by omega)) (fun v73 M74 h75 => ?_)
          obtain ⟨⟨u76, rfl, z77⟩, h75⟩ := h75
          have g78 := h75.2 2 _ rfl g64
          have g79 := h75.2 9 _ rfl g65
          have g80 := h75.2 4 _ rfl g66
          have hS81 := hS63.tr h75.1 (by simp)
          show ml _ _ _ (120, [(0, .ref o)], [.int u76], M74) _
          exact ml_ret rfl (r_z (z77)) (⟨⟨_, rfl, (z77).imp id (fun h => ⟨h, _, g80, by decide, sz_in hk hcl h0 hp (Int32.not_lt.mp c_81)⟩)⟩, hS81⟩)
        · have c_91 : ¬ (u67 = 132) := of_decide_eq_false c_91
          refine ml_st (S' := (95, [(0, .ref o)], [.ref o], M60)) rfl rfl rfl ?_
          refine ml_get (S' := (98, [(0, .ref o)], [.int u67], M60)) rfl g68 rfl ?_
          refine ml_call (a := [.int u67]) (rest := []) rfl (rfl) rfl rfl (ti_isLocalOpcode hS63.1.1  (by omega)) (fun v82 M83 h84 => ?_)
          obtain ⟨⟨u85, rfl, z86⟩, h84⟩ := h84
          rw [h84]
          show ml _ _ _ (101, [(0, .ref o)], [.int u85], M60) _
          refine ml_if (S1 := (106, [(0, .ref o)], [], M60)) (S2 := (104, [], [], M60)) rfl rfl rfl (fun c_101 => ?_) (fun c_101 => ?_)
          · have c_101 : ¬ u85 = 0 := of_decide_eq_true c_101
            refine ml_blk 3 (S' := (109, [(0, .ref o)], [.ref o, .ref o, .ref o], M60)) rfl ?_
            refine ml_get (S' := (112, [(0, .ref o)], [.int y9, .ref o, .ref o], M60)) rfl g65 rfl ?_
            refine ml_blk 2 (S' := (114, [(0, .ref o)], [.int (y9 + 2), .ref o, .ref o], M60)) rfl ?_
            refine ml_call (a := [.ref o, .int (y9 + 2)]) (rest := [.ref o]) rfl (okc_t rfl rfl rfl hS63.1.1 hY0 (by decide)) rfl rfl (ti_u2 hS63.1.1 hY0 hY1 (by omega)) (fun v87 M88 h89 => ?_)
            obtain ⟨⟨u90, rfl⟩, h89⟩ := h89
            rw [h89]
            show ml _ _ _ (117, [(0, .ref o)], [.int u90, .ref o], M60) _
            refine ml_call (a := [.ref o, .int u90]) (rest := []) rfl (okc_t rfl rfl rfl hS63.1.1 hY0 (by decide)) rfl rfl (ti_isLocalTaken hS63.1.1 hY0 hY1 (by omega)) (fun v91 M92 h93 => ?_)
            obtain ⟨⟨u94, rfl, z95⟩, h93⟩ := h93
            have g96 := h93.2 2 _ rfl g64
            have g97 := h93.2 9 _ rfl g65
            have g98 := h93.2 4 _ rfl g66
            have hS99 := hS63.tr h93.1 (by simp)
            show ml _ _ _ (120, [(0, .ref o)], [.int u94], M92) _
            exact ml_ret rfl (r_z (z95)) (⟨⟨_, rfl, (z95).imp id (fun h => ⟨h, _, g98, by decide, sz_in hk hcl h0 hp (Int32.not_lt.mp c_81)⟩)⟩, hS99⟩)
          · have c_101 : ¬ (¬ u85 = 0) := of_decide_eq_false c_101
            refine ml_st (S' := (105, [], [.int 0], M60)) rfl rfl rfl ?_
            exact ml_ret rfl (r_z (Or.inl rfl)) (⟨⟨_, rfl, Or.inl rfl⟩, hS63⟩)
  · have c_10 : ¬ (4 ≤ (cl - y9)) := of_decide_eq_false c_10
    refine ml_st (S' := (14, [(0, .ref o)], [.int 0], M)) rfl rfl rfl ?_
    exact ml_ret rfl (r_z (Or.inl rfl)) (⟨⟨_, rfl, Or.inl rfl⟩, hS⟩)
set_option maxHeartbeats 2000000 in
theorem ti_isTableTaken {g : xe_G} {M : mi_H} {Y : yT} {o b k da n : Nat} {cl y9 sa : Int32} (hW : WF g Y M) (hY0 : Y.1 o = some (5, [b, k])) (hY1 : Y.1 b = some (1, [da, n])) (hc2 : mi_gf M o 5 2 = some (.int cl)) (hc9 : mi_gf M o 5 9 = some (.int y9)) (hc11 : mi_gf M o 5 11 = some (.int sa)) (hk : k < 1073741824) (hcl : cl.toInt ≤ k) (h0 : 0 ≤ y9.toInt) (hp : y9.toInt < cl.toInt) (h1 : y9.toInt < sa.toInt) (h2 : sa.toInt ≤ y9.toInt + 4) {d : Nat} (hd : 3 ≤ d) : mt (mT g) d 97 [.ref o] M (qS g Y o k y9 M) := by
  obtain ⟨d, rfl⟩ : ∃ e, d = e + 1 := ⟨d - 1, by omega⟩
  have hS : sf g Y [o] M M := sf.rf hW
  refine mt_in (b := mb_97 g) rfl rfl ?_
  show ml (mT g) d (mb_97 g).2 (0, [(0, .ref o)], [], M) _
  refine ml_st (S' := (1, [(0, .ref o)], [.ref o], M)) rfl rfl rfl ?_
  refine ml_get (S' := (4, [(0, .ref o)], [.int cl], M)) rfl hc2 rfl ?_
  refine ml_st (S' := (5, [(0, .ref o)], [.ref o, .int cl], M)) rfl rfl rfl ?_
  refine ml_get (S' := (8, [(0, .ref o)], [.int sa, .int cl], M)) rfl hc11 rfl ?_
  refine ml_blk 2 (S' := (11, [(0, .ref o)], [.int 12, .int (cl - sa)], M)) rfl ?_
  refine ml_if2 (S1 := (16, [(0, .ref o)], [], M)) (S2 := (14, [(0, .ref o)], [], M)) rfl rfl rfl (fun c_11 => ?_) (fun c_11 => ?_)
  · have c_11 : 12 ≤ (cl - sa) := of_decide_eq_true c_11
    refine ml_blk 3 (S' := (19, [(0, .ref o)], [.ref o, .ref o, .ref o], M)) rfl ?_
    refine ml_get (S' := (22, [(0, .ref o)], [.int sa, .ref o, .ref o], M)) rfl hc11 rfl ?_
    refine ml_blk 2 (S' := (24, [(0, .ref o)], [.int (sa + 4), .ref o, .ref o], M)) rfl ?_
    refine ml_call (a := [.ref o, .int (sa + 4)]) (rest := [.ref o]) rfl (okc_t rfl rfl rfl hS.1.1 hY0 (by decide)) rfl rfl (ti_s4 hS.1.1 hY0 hY1 (by omega)) (fun v1 M2 h3 => ?_)
    obtain ⟨⟨u4, rfl⟩, h3⟩ := h3
    rw [h3]
    show ml _ _ _ (27, [(0, .ref o)], [.int u4, .ref o], M) _
    refine tp_put rfl hS.1 hY0 (by decide) rfl (⟨_, rfl⟩) rfl rfl (fun M5 hS6 f7 => ?_)
    have hS8 := hS.put hS6 f7 (by simp)
    have g9 := f7.2.1 2 _ (by decide) hc2
    have g10 := f7.2.1 9 _ (by decide) hc9
    have g11 := f7.2.1 11 _ (by decide) hc11
    show ml _ _ _ (30, [(0, .ref o)], [], M5) _
    refine ml_blk 3 (S' := (33, [(0, .ref o)], [.ref o, .ref o, .ref o], M5)) rfl ?_
    refine ml_get (S' := (36, [(0, .ref o)], [.int sa, .ref o, .ref o], M5)) rfl g11 rfl ?_
    refine ml_blk 2 (S' := (39, [(0, .ref o)], [.int (sa + 8), .ref o, .ref o], M5)) rfl ?_
    refine ml_call (a := [.ref o, .int (sa + 8)]) (rest := [.ref o]) rfl (okc_t rfl rfl rfl hS8.1.1 hY0 (by decide)) rfl rfl (ti_s4 hS8.1.1 hY0 hY1 (by omega)) (fun v12 M13 h14 => ?_)
    obtain ⟨⟨u15, rfl⟩, h14⟩ := h14
    rw [h14]
    show ml _ _ _ (42, [(0, .ref o)], [.int u15, .ref o], M5) _
    refine tp_put rfl hS8.1 hY0 (by decide) rfl (⟨_, rfl⟩) rfl rfl (fun M16 hS17 f18 => ?_)
    have hS19 := hS8.put hS17 f18 (by simp)
    have g20 := f18.2.1 2 _ (by decide) g9
    have g21 := f18.2.1 9 _ (by decide) g10
    have g22 := f18.2.1 11 _ (by decide) g11
    show ml _ _ _ (45, [(0, .ref o)], [], M16) _
    refine ml_st (S' := (46, [(0, .ref o)], [.ref o], M16)) rfl rfl rfl ?_
    refine ml_get (S' := (49, [(0, .ref o)], [.int u15], M16)) rfl f18.2.2.1 rfl ?_
    refine ml_blk 2 (S' := (51, [(0, .ref o)], [.ref o, .long (Int32.toInt64 u15)], M16)) rfl ?_
    refine tg_int rfl hS19.1.1 hY0 (by decide) rfl (fun u23 g24 => ?_)
    show ml _ _ _ (54, [(0, .ref o)], [.int u23, .long (Int32.toInt64 u15)], M16) _
    refine ml_blk 3 (S' := (57, [(0, .ref o)], [.long 1, .long ((Int32.toInt64 u15) - (Int32.toInt64 u23))], M16)) rfl ?_
    refine ml_st (S' := (58, [(0, .ref o)], [.long (((Int32.toInt64 u15) - (Int32.toInt64 u23)) + 1)], M16)) rfl rfl rfl ?_
    refine ml_st (S' := (59, [(1, .long (((Int32.toInt64 u15) - (Int32.toInt64 u23)) + 1)), (0, .ref o)], [], M16)) rfl rfl rfl ?_
    refine ml_blk 3 (S' := (62, [(1, .long (((Int32.toInt64 u15) - (Int32.toInt64 u23)) + 1)), (0, .ref o)], [.int (lg_cmp (((Int32.toInt64 u15) - (Int32.toInt64 u23)) + 1) 1)], M16)) rfl ?_
    refine ml_if (S1 := (87, [], [], M16)) (S2 := (65, [(1, .long (((Int32.toInt64 u15) - (Int32.toInt64 u23)) + 1)), (0, .ref o)], [], M16)) rfl rfl rfl (fun c_62 => ?_) (fun c_62 => ?_)
    · have c_62 : (lg_cmp (((Int32.toInt64 u15) - (Int32.toInt64 u23)) + 1) 1) < 0 := of_decide_eq_true c_62
      refine ml_st (S' := (88, [], [.int 0], M16)) rfl rfl rfl ?_
      exact ml_ret rfl (r_z (Or.inl rfl)) (⟨⟨_, rfl, Or.inl rfl⟩, hS19⟩)
    · have c_62 : ¬ ((lg_cmp (((Int32.toInt64 u15) - (Int32.toInt64 u23)) + 1) 1) < 0) := of_decide_eq_false c_62
      refine ml_blk 3 (S' := (70, [(1, .long (((Int32.toInt64 u15) - (Int32.toInt64 u23)) + 1)), (0, .ref o)], [.long ((((Int32.toInt64 u15) - (Int32.toInt64 u23)) + 1) * 4)], M16)) rfl ?_
      refine ml_st (S' := (71, [(1, .long (((Int32.toInt64 u15) - (Int32.toInt64 u23)) + 1)), (0, .ref o)], [.ref o, .long ((((Int32.toInt64 u15) - (Int32.toInt64 u23)) + 1) * 4)], M16)) rfl rfl rfl ?_
      refine ml_get (S' := (74, [(1, .long (((Int32.toInt64 u15) - (Int32.toInt64 u23)) + 1)), (0, .ref o)], [.int cl, .long ((((Int32.toInt64 u15) - (Int32.toInt64 u23)) + 1) * 4)], M16)) rfl g20 rfl ?_
      refine ml_st (S' := (75, [(1, .long (((Int32.toInt64 u15) - (Int32.toInt64 u23)) + 1)), (0, .ref o)], [.ref o, .int cl, .long ((((Int32.toInt64 u15) - (Int32.toInt64 u23)) + 1) * 4)], M16)) rfl rfl rfl ?_
      refine ml_get (S' := (78, [(1, .long (((Int32.toInt64 u15) - (Int32.toInt64 u23)) + 1)), (0, .ref o)], [.int sa, .int cl, .long ((((Int32.toInt64 u15) - (Int32.toInt64 u23)) + 1) * 4)], M16)) rfl g22 rfl ?_
      refine ml_blk 3 (S' := (82, [(1, .long (((Int32.toInt64 u15) - (Int32.toInt64 u23)) + 1)), (0, .ref o)], [.int ((cl - sa) - 12), .long ((((Int32.toInt64 u15) - (Int32.toInt64 u23)) + 1) * 4)], M16)) rfl ?_
      refine ml_blk 2 (S' := (84, [(1, .long (((Int32.toInt64 u15) - (Int32.toInt64 u23)) + 1)), (0, .ref o)], [.int (lg_cmp ((((Int32.toInt64 u15) - (Int32.toInt64 u23)) + 1) * 4) (Int32.toInt64 ((cl - sa) - 12)))], M16)) rfl ?_
      refine ml_if (S1 := (89, [(1, .long (((Int32.toInt64 u15) - (Int32.toInt64 u23)) + 1)), (0, .ref o)], [], M16)) (S2 := (87, [], [], M16)) rfl rfl rfl (fun c_84 => ?_) (fun c_84 => ?_)
      · have c_84 : (lg_cmp ((((Int32.toInt64 u15) - (Int32.toInt64 u23)) + 1) * 4) (Int32.toInt64 ((cl - sa) - 12))) ≤ 0 := of_decide_eq_true c_84
        refine ml_blk 3 (S' := (92, [(1, .long (((Int32.toInt64 u15) - (Int32.toInt64 u23)) + 1)), (0, .ref o)], [.int (Int64.toInt32 (((Int32.toInt64 u15) - (Int32.toInt64 u23)) + 1)), .ref o], M16)) rfl ?_
        refine ml_blk 2 (S' := (94, [(1, .long (((Int32.toInt64 u15) - (Int32.toInt64 u23)) + 1)), (0, .ref o)], [.int ((Int64.toInt32 (((Int32.toInt64 u15) - (Int32.toInt64 u23)) + 1)) + 1), .ref o], M16)) rfl ?_
        refine tp_put rfl hS19.1 hY0 (by decide) rfl (⟨_, rfl⟩) rfl rfl (fun M25 hS26 f27 => ?_)
        have hS28 := hS19.put hS26 f27 (by simp)
        have g29 := f27.2.1 2 _ (by decide) g20
        have g30 := f27.2.1 9 _ (by decide) g21
        have g31 := f27.2.1 11 _ (by decide) g22
        show ml _ _ _ (97, [(1, .long (((Int32.toInt64 u15) - (Int32.toInt64 u23)) + 1)), (0, .ref o)], [], M25) _
        refine ml_blk 2 (S' := (99, [(1, .long (((Int32.toInt64 u15) - (Int32.toInt64 u23)) + 1)), (0, .ref o)], [.ref o, .ref o], M25)) rfl ?_
        refine ml_get (S' := (102, [(1, .long (((Int32.toInt64 u15) - (Int32.toInt64 u23)) + 1)), (0, .ref o)], [.int sa, .ref o], M25)) rfl g31 rfl ?_
        refine ml_blk 3 (S' := (106, [(1, .long (((Int32.toInt64 u15) - (Int32.toInt64 u23)) + 1)), (0, .ref o)], [.int 4, .int (sa + 12), .ref o], M25)) rfl ?_
        refine ml_blk 3 (S' := (109, [(1, .long (((Int32.toInt64 u15) - (Int32.toInt64 u23)) + 1)), (0, .ref o)], [.int (4 * (Int64.toInt32 (((Int32.toInt64 u15) - (Int32.toInt64 u23)) + 1))), .int (sa + 12), .ref o], M25)) rfl ?_
        refine ml_blk 2 (S' := (111, [(1, .long (((Int32.toInt64 u15) - (Int32.toInt64 u23)) + 1)), (0, .ref o)], [.ref o, .int ((sa + 12) + (4 * (Int64.toInt32 (((Int32.toInt64 u15) - (Int32.toInt64 u23)) + 1)))), .ref o], M25)) rfl ?_
        refine ml_get (S' := (114, [(1, .long (((Int32.toInt64 u15) - (Int32.toInt64 u23)) + 1)), (0, .ref o)], [.int y9, .int ((sa + 12) + (4 * (Int64.toInt32 (((Int32.toInt64 u15) - (Int32.toInt64 u23)) + 1)))), .ref o], M25)) rfl g30 rfl ?_
        refine ml_st (S' := (115, [(1, .long (((Int32.toInt64 u15) - (Int32.toInt64 u23)) + 1)), (0, .ref o)], [.int (((sa + 12) + (4 * (Int64.toInt32 (((Int32.toInt64 u15) - (Int32.toInt64 u23)) + 1)))) - y9), .ref o], M25)) rfl rfl rfl ?_
        refine tp_put rfl hS28.1 hY0 (by decide) rfl (⟨_, rfl⟩) rfl rfl (fun M32 hS33 f34 => ?_)
        have hS35 := hS28.put hS33 f34 (by simp)
        have g36 := f34.2.1 2 _ (by decide) g29
        have g37 := f34.2.1 9 _ (by decide) g30
        have g38 := f34.2.1 11 _ (by decide) g31
        show ml _ _ _ (118, [(1, .long (((Int32.toInt64 u15) - (Int32.toInt64 u23)) + 1)), (0, .ref o)], [], M32) _
        refine ml_st (S' := (119, [(1, .long (((Int32.toInt64 u15) - (Int32.toInt64 u23)) + 1)), (0, .ref o)], [.int 1], M32)) rfl rfl rfl ?_
        exact ml_ret rfl (r_z (Or.inr rfl)) (⟨⟨_, rfl, Or.inr ⟨rfl, _, f34.2.2.1, (tab_sz hk hcl h0 h1 h2 hp c_62 c_84).1, (tab_sz hk hcl h0 h1 h2 hp c_62 c_84).2⟩⟩, hS35⟩)
      · have c_84 : ¬ ((lg_cmp ((((Int32.toInt64 u15) - (Int32.toInt64 u23)) + 1) * 4) (Int32.toInt64 ((cl - sa) - 12))) ≤ 0) := of_decide_eq_false c_84
        refine ml_st (S' := (88, [], [.int 0], M16)) rfl rfl rfl ?_
        exact ml_ret rfl (r_z (Or.inl rfl)) (⟨⟨_, rfl, Or.inl rfl⟩, hS19⟩)
  · have c_11 : ¬ (12 ≤ (cl - sa)) := of_decide_eq_false c_11
    refine ml_st (S' := (15, [(0, .ref o)], [.int 0], M)) rfl rfl rfl ?_
    exact ml_ret rfl (r_z (Or.inl rfl)) (⟨⟨_, rfl, Or.inl rfl⟩, hS⟩)
set_option maxHeartbeats 2000000 in
theorem ti_isLookupTaken {g : xe_G} {M : mi_H} {Y : yT} {o b k da n : Nat} {cl y9 sa : Int32} (hW : WF g Y M) (hY0 : Y.1 o = some (5, [b, k])) (hY1 : Y.1 b = some (1, [da, n])) (hc2 : mi_gf M o 5 2 = some (.int cl)) (hc9 : mi_gf M o 5 9 = some (.int y9)) (hc11 : mi_gf M o 5 11 = some (.int sa)) (hk : k < 1073741824) (hcl : cl.toInt ≤ k) (h0 : 0 ≤ y9.toInt) (hp : y9.toInt < cl.toInt) (h1 : y9.toInt < sa.toInt) (h2 : sa.toInt ≤ y9.toInt + 4) {d : Nat} (hd : 4 ≤ d) : mt (mT g) d 93 [.ref o] M (qS g Y o k y9 M) := by
  obtain ⟨d, rfl⟩ : ∃ e, d = e + 1 := ⟨d - 1, by omega⟩
  have hS : sf g Y [o] M M := sf.rf hW
  refine mt_in (b := mb_93 g) rfl rfl ?_
  show ml (mT g) d (mb_93 g).2 (0, [(0, .ref o)], [], M) _
  refine ml_st (S' := (1, [(0, .ref o)], [.ref o], M)) rfl rfl rfl ?_
  refine ml_get (S' := (4, [(0, .ref o)], [.int cl], M)) rfl hc2 rfl ?_
  refine ml_st (S' := (5, [(0, .ref o)], [.ref o, .int cl], M)) rfl rfl rfl ?_
  refine ml_get (S' := (8, [(0, .ref o)], [.int sa, .int cl], M)) rfl hc11 rfl ?_
  refine ml_blk 2 (S' := (11, [(0, .ref o)], [.int 8, .int (cl - sa)], M)) rfl ?_
  refine ml_if2 (S1 := (16, [(0, .ref o)], [], M)) (S2 := (14, [(0, .ref o)], [], M)) rfl rfl rfl (fun c_11 => ?_) (fun c_11 => ?_)
  · have c_11 : 8 ≤ (cl - sa) := of_decide_eq_true c_11
    refine ml_blk 3 (S' := (19, [(0, .ref o)], [.ref o, .ref o, .ref o], M)) rfl ?_
    refine ml_get (S' := (22, [(0, .ref o)], [.int sa, .ref o, .ref o], M)) rfl hc11 rfl ?_
    refine ml_blk 2 (S' := (24, [(0, .ref o)], [.int (sa + 4), .ref o, .ref o], M)) rfl ?_
    refine ml_call (a := [.ref o, .int (sa + 4)]) (rest := [.ref o]) rfl (okc_t rfl rfl rfl hS.1.1 hY0 (by decide)) rfl rfl (ti_s4 hS.1.1 hY0 hY1 (by omega)) (fun v1 M2 h3 => ?_)
    obtain ⟨⟨u4, rfl⟩, h3⟩ := h3
    rw [h3]
    show ml _ _ _ (27, [(0, .ref o)], [.int u4, .ref o], M) _
    refine tp_put rfl hS.1 hY0 (by decide) rfl (⟨_, rfl⟩) rfl rfl (fun M5 hS6 f7 => ?_)
    have hS8 := hS.put hS6 f7 (by simp)
    have g9 := f7.2.1 2 _ (by decide) hc2
    have g10 := f7.2.1 9 _ (by decide) hc9
    have g11 := f7.2.1 11 _ (by decide) hc11
    show ml _ _ _ (30, [(0, .ref o)], [], M5) _
    refine ml_st (S' := (31, [(0, .ref o)], [.ref o], M5)) rfl rfl rfl ?_
    refine ml_get (S' := (34, [(0, .ref o)], [.int u4], M5)) rfl f7.2.2.1 rfl ?_
    refine ml_if (S1 := (59, [], [], M5)) (S2 := (37, [(0, .ref o)], [], M5)) rfl rfl rfl (fun c_34 => ?_) (fun c_34 => ?_)
    · have c_34 : u4 < 0 := of_decide_eq_true c_34
      refine ml_st (S' := (60, [], [.int 0], M5)) rfl rfl rfl ?_
      exact ml_ret rfl (r_z (Or.inl rfl)) (⟨⟨_, rfl, Or.inl rfl⟩, hS8⟩)
    · have c_34 : ¬ (u4 < 0) := of_decide_eq_false c_34
      refine ml_st (S' := (38, [(0, .ref o)], [.ref o], M5)) rfl rfl rfl ?_
      refine ml_get (S' := (41, [(0, .ref o)], [.int u4], M5)) rfl f7.2.2.1 rfl ?_
      refine ml_st (S' := (42, [(0, .ref o)], [.ref o, .int u4], M5)) rfl rfl rfl ?_
      refine ml_get (S' := (45, [(0, .ref o)], [.int cl, .int u4], M5)) rfl g9 rfl ?_
      refine ml_st (S' := (46, [(0, .ref o)], [.ref o, .int cl, .int u4], M5)) rfl rfl rfl ?_
      refine ml_get (S' := (49, [(0, .ref o)], [.int sa, .int cl, .int u4], M5)) rfl g11 rfl ?_
      refine ml_blk 3 (S' := (53, [(0, .ref o)], [.int ((cl - sa) - 8), .int u4], M5)) rfl ?_
      refine ml_st (S' := (55, [(0, .ref o)], [.int 8, .int ((cl - sa) - 8), .int u4], M5)) rfl rfl rfl ?_
      refine ml_st (S' := (56, [(0, .ref o)], [.int (((cl - sa) - 8) / 8), .int u4], M5)) rfl rfl rfl ?_
      refine ml_if2 (S1 := (61, [(0, .ref o)], [], M5)) (S2 := (59, [], [], M5)) rfl rfl rfl (fun c_56 => ?_) (fun c_56 => ?_)
      · have c_56 : u4 ≤ (((cl - sa) - 8) / 8) := of_decide_eq_true c_56
        refine ml_blk 2 (S' := (63, [(0, .ref o)], [.ref o, .ref o], M5)) rfl ?_
        refine ml_get (S' := (66, [(0, .ref o)], [.int u4, .ref o], M5)) rfl f7.2.2.1 rfl ?_
        refine ml_blk 2 (S' := (68, [(0, .ref o)], [.int (u4 + 1), .ref o], M5)) rfl ?_
        refine tp_put rfl hS8.1 hY0 (by decide) rfl (⟨_, rfl⟩) rfl rfl (fun M12 hS13 f14 => ?_)
        have hS15 := hS8.put hS13 f14 (by simp)
        have g16 := f14.2.1 2 _ (by decide) g9
        have g17 := f14.2.1 9 _ (by decide) g10
        have g18 := f14.2.1 11 _ (by decide) g11
        have g19 := f14.2.1 5 _ (by decide) f7.2.2.1
        show ml _ _ _ (71, [(0, .ref o)], [], M12) _
        refine ml_blk 2 (S' := (73, [(0, .ref o)], [.ref o, .ref o], M12)) rfl ?_
        refine ml_get (S' := (76, [(0, .ref o)], [.int sa, .ref o], M12)) rfl g18 rfl ?_
        refine ml_blk 3 (S' := (81, [(0, .ref o)], [.int 8, .int (sa + 8), .ref o], M12)) rfl ?_
        refine ml_st (S' := (82, [(0, .ref o)], [.ref o, .int 8, .int (sa + 8), .ref o], M12)) rfl rfl rfl ?_
        refine ml_get (S' := (85, [(0, .ref o)], [.int u4, .int 8, .int (sa + 8), .ref o], M12)) rfl g19 rfl ?_
        refine ml_blk 3 (S' := (88, [(0, .ref o)], [.ref o, .int ((sa + 8) + (8 * u4)), .ref o], M12)) rfl ?_
        refine ml_get (S' := (91, [(0, .ref o)], [.int y9, .int ((sa + 8) + (8 * u4)), .ref o], M12)) rfl g17 rfl ?_
        refine ml_st (S' := (92, [(0, .ref o)], [.int (((sa + 8) + (8 * u4)) - y9), .ref o], M12)) rfl rfl rfl ?_
        refine tp_put rfl hS15.1 hY0 (by decide) rfl (⟨_, rfl⟩) rfl rfl (fun M20 hS21 f22 => ?_)
        have hS23 := hS15.put hS21 f22 (by simp)
        have g24 := f22.2.1 2 _ (by decide) g16
        have g25 := f22.2.1 9 _ (by decide) g17
        have g26 := f22.2.1 11 _ (by decide) g18
        have g27 := f22.2.1 5 _ (by decide) g19
        show ml _ _ _ (95, [(0, .ref o)], [], M20) _
        refine ml_st (S' := (96, [(0, .ref o)], [.int 2], M20)) rfl rfl rfl ?_
        refine ml_st (S' := (97, [(0, .ref o), (1, .int 2)], [], M20)) rfl rfl rfl ?_
        have L_97 : ∀ (n_97 : Nat) (i97_1 : Int32), (2147483648 - i97_1.toInt).toNat ≤ n_97 → ml (mT g) d (mb_93 g).2 (97, [(0, .ref o), (1, .int i97_1)], [], M20) (qS g Y o k y9 M) := by
          intro n_97
          induction n_97 with
          | zero => intro i97_1 hn; exact (loop_zero hn).elim
          | succ n_97 ih_97 =>
            intro i97_1 hn_97
            refine ml_blk 2 (S' := (99, [(0, .ref o), (1, .int i97_1)], [.ref o, .int i97_1], M20)) rfl ?_
            refine tg_int rfl hS23.1.1 hY0 (by decide) rfl (fun u28 g29 => ?_)
            show ml _ _ _ (102, [(0, .ref o), (1, .int i97_1)], [.int u28, .int i97_1], M20) _
            refine ml_if2 (S1 := (128, [(0, .ref o), (1, .int i97_1)], [], M20)) (S2 := (105, [(0, .ref o), (1, .int i97_1)], [], M20)) rfl rfl rfl (fun c_102 => ?_) (fun c_102 => ?_)
            · have c_102 : u28 ≤ i97_1 := of_decide_eq_true c_102
              refine ml_st (S' := (129, [(0, .ref o), (1, .int i97_1)], [.int 1], M20)) rfl rfl rfl ?_
              exact ml_ret rfl (r_z (Or.inr rfl)) (⟨⟨_, rfl, Or.inr ⟨rfl, _, f22.2.2.1, (look_sz hk hcl h0 h1 h2 hp c_11 c_34 c_56).1, (look_sz hk hcl h0 h1 h2 hp c_11 c_34 c_56).2⟩⟩, hS23⟩)
            · have c_102 : ¬ (u28 ≤ i97_1) := of_decide_eq_false c_102
              refine ml_blk 3 (S' := (108, [(0, .ref o), (1, .int i97_1)], [.int 1, .int i97_1, .ref o], M20)) rfl ?_
              refine ml_st (S' := (109, [(0, .ref o), (1, .int i97_1)], [.int (i97_1 - 1), .ref o], M20)) rfl rfl rfl ?_
              refine ml_call (a := [.ref o, .int (i97_1 - 1)]) (rest := []) rfl (okc_t rfl rfl rfl hS23.1.1 hY0 (by decide)) rfl rfl (ti_keyOf hS23.1.1 hY0 hY1 (by omega)) (fun v30 M31 h32 => ?_)
              obtain ⟨⟨u33, rfl⟩, h32⟩ := h32
              rw [h32]
              show ml _ _ _ (112, [(0, .ref o), (1, .int i97_1)], [.int u33], M20) _
              refine ml_blk 2 (S' := (114, [(0, .ref o), (1, .int i97_1)], [.int i97_1, .ref o, .int u33], M20)) rfl ?_
              refine ml_call (a := [.ref o, .int i97_1]) (rest := [.int u33]) rfl (okc_t rfl rfl rfl hS23.1.1 hY0 (by decide)) rfl rfl (ti_keyOf hS23.1.1 hY0 hY1 (by omega)) (fun v34 M35 h36 => ?_)
              obtain ⟨⟨u37, rfl⟩, h36⟩ := h36
              rw [h36]
              show ml _ _ _ (117, [(0, .ref o), (1, .int i97_1)], [.int u37, .int u33], M20) _
              refine ml_if2 (S1 := (122, [(0, .ref o), (1, .int i97_1)], [], M20)) (S2 := (120, [(0, .ref o), (1, .int i97_1)], [], M20)) rfl rfl rfl (fun c_117 => ?_) (fun c_117 => ?_)
              · have c_117 : u33 < u37 := of_decide_eq_true c_117
                refine ml_st (S' := (125, [(1, .int (i97_1 + 1)), (0, .ref o)], [], M20)) rfl rfl rfl ?_
                refine ml_st (S' := (97, [(0, .ref o), (1, .int (i97_1 + 1))], [], M20)) rfl rfl rfl ?_
                exact ih_97 (i97_1 + 1) (loop_inc (Int32.not_le.mp c_102) hn_97) 
              · have c_117 : ¬ (u33 < u37) := of_decide_eq_false c_117
                refine ml_st (S' := (121, [(0, .ref o), (1, .int i97_1)], [.int 0], M20)) rfl rfl rfl ?_
                exact ml_ret rfl (r_z (Or.inl rfl)) (⟨⟨_, rfl, Or.inl rfl⟩, hS23⟩)
        exact L_97 _ 2 (Nat.le_refl _) 
      · have c_56 : ¬ (u4 ≤ (((cl - sa) - 8) / 8)) := of_decide_eq_false c_56
        refine ml_st (S' := (60, [], [.int 0], M5)) rfl rfl rfl ?_
        exact ml_ret rfl (r_z (Or.inl rfl)) (⟨⟨_, rfl, Or.inl rfl⟩, hS8⟩)
  · have c_11 : ¬ (8 ≤ (cl - sa)) := of_decide_eq_false c_11
    refine ml_st (S' := (15, [(0, .ref o)], [.int 0], M)) rfl rfl rfl ?_
    exact ml_ret rfl (r_z (Or.inl rfl)) (⟨⟨_, rfl, Or.inl rfl⟩, hS⟩)
set_option maxHeartbeats 2000000 in
theorem ti_isSwitchTaken {g : xe_G} {M : mi_H} {Y : yT} {o b k da n : Nat} {cl y9 : Int32} (hW : WF g Y M) (hY0 : Y.1 o = some (5, [b, k])) (hY1 : Y.1 b = some (1, [da, n])) (hc2 : mi_gf M o 5 2 = some (.int cl)) (hc9 : mi_gf M o 5 9 = some (.int y9)) (hk : k < 1073741824) (hcl : cl.toInt ≤ k) (h0 : 0 ≤ y9.toInt) (hp : y9.toInt < cl.toInt) {d : Nat} (hd : 5 ≤ d) : mt (mT g) d 96 [.ref o] M (qS g Y o k y9 M) := by
  obtain ⟨d, rfl⟩ : ∃ e, d = e + 1 := ⟨d - 1, by omega⟩
  have hS : sf g Y [o] M M := sf.rf hW
  refine mt_in (b := mb_96 g) rfl rfl ?_
  show ml (mT g) d (mb_96 g).2 (0, [(0, .ref o)], [], M) _
  refine ml_blk 2 (S' := (2, [(0, .ref o)], [.ref o, .ref o], M)) rfl ?_
  refine ml_get (S' := (5, [(0, .ref o)], [.int y9, .ref o], M)) rfl hc9 rfl ?_
  refine ml_blk 3 (S' := (9, [(0, .ref o)], [.int 4, .int (y9 &&& (-4)), .ref o], M)) rfl ?_
  refine ml_st (S' := (10, [(0, .ref o)], [.int ((y9 &&& (-4)) + 4), .ref o], M)) rfl rfl rfl ?_
  refine tp_put rfl hS.1 hY0 (by decide) rfl (⟨_, rfl⟩) rfl rfl (fun M1 hS2 f3 => ?_)
  have hS4 := hS.put hS2 f3 (by simp)
  have g5 := f3.2.1 2 _ (by decide) hc2
  have g6 := f3.2.1 9 _ (by decide) hc9
  show ml _ _ _ (13, [(0, .ref o)], [], M1) _
  refine ml_st (S' := (14, [(0, .ref o)], [.ref o], M1)) rfl rfl rfl ?_
  refine ml_get (S' := (17, [(0, .ref o)], [.int y9], M1)) rfl g6 rfl ?_
  refine ml_blk 2 (S' := (19, [(0, .ref o)], [.int (y9 + 1)], M1)) rfl ?_
  refine ml_st (S' := (20, [(0, .ref o), (1, .int (y9 + 1))], [], M1)) rfl rfl rfl ?_
  have L_20 : ∀ (n_20 : Nat) (i20_1 : Int32), (2147483648 - i20_1.toInt).toNat ≤ n_20 → ml (mT g) d (mb_96 g).2 (20, [(0, .ref o), (1, .int i20_1)], [], M1) (qS g Y o k y9 M) := by
    intro n_20
    induction n_20 with
    | zero => intro i20_1 hn; exact (loop_zero hn).elim
    | succ n_20 ih_20 =>
      intro i20_1 hn_20
      refine ml_blk 2 (S' := (22, [(0, .ref o), (1, .int i20_1)], [.ref o, .int i20_1], M1)) rfl ?_
      refine ml_get (S' := (25, [(0, .ref o), (1, .int i20_1)], [.int ((y9 &&& (-4)) + 4), .int i20_1], M1)) rfl f3.2.2.1 rfl ?_
      refine ml_if2 (S1 := (44, [(0, .ref o), (1, .int i20_1)], [], M1)) (S2 := (28, [(0, .ref o), (1, .int i20_1)], [], M1)) rfl rfl rfl (fun c_25 => ?_) (fun c_25 => ?_)
      · have c_25 : ((y9 &&& (-4)) + 4) ≤ i20_1 := of_decide_eq_true c_25
        refine ml_st (S' := (45, [(0, .ref o), (1, .int i20_1)], [.ref o], M1)) rfl rfl rfl ?_
        refine tg_int rfl hS4.1.1 hY0 (by decide) rfl (fun u7 g8 => ?_)
        show ml _ _ _ (48, [(0, .ref o), (1, .int i20_1)], [.int u7], M1) _
        refine ml_st (S' := (51, [(0, .ref o), (1, .int i20_1)], [.int 170, .int u7], M1)) rfl rfl rfl ?_
        refine ml_if2 (S1 := (61, [(0, .ref o), (1, .int i20_1)], [], M1)) (S2 := (54, [(0, .ref o), (1, .int i20_1)], [], M1)) rfl rfl rfl (fun c_51 => ?_) (fun c_51 => ?_)
        · have c_51 : ¬ u7 = 170 := of_decide_eq_true c_51
          refine ml_st (S' := (62, [(0, .ref o), (1, .int i20_1)], [.ref o], M1)) rfl rfl rfl ?_
          refine ml_call (a := [.ref o]) (rest := []) rfl (okc_t rfl rfl rfl hS4.1.1 hY0 (by decide)) rfl rfl (ti_isLookupTaken hS4.1.1 hY0 hY1 g5 g6 f3.2.2.1 (hk) (hcl) (h0) (hp) ((pad4 h0 (by omega)).1) ((pad4 h0 (by omega)).2) (by omega)) (fun v9 M10 h11 => ?_)
          obtain ⟨⟨u12, rfl, z13⟩, h11⟩ := h11
          have hS14 := hS4.tr h11 (by simp)
          show ml _ _ _ (65, [], [.int u12], M10) _
          exact ml_ret rfl (r_z (qS_z z13)) (⟨⟨_, rfl, z13⟩, hS14⟩)
        · have c_51 : ¬ (¬ u7 = 170) := of_decide_eq_false c_51
          refine ml_st (S' := (55, [(0, .ref o), (1, .int i20_1)], [.ref o], M1)) rfl rfl rfl ?_
          refine ml_call (a := [.ref o]) (rest := []) rfl (okc_t rfl rfl rfl hS4.1.1 hY0 (by decide)) rfl rfl (ti_isTableTaken hS4.1.1 hY0 hY1 g5 g6 f3.2.2.1 (hk) (hcl) (h0) (hp) ((pad4 h0 (by omega)).1) ((pad4 h0 (by omega)).2) (by omega)) (fun v15 M16 h17 => ?_)
          obtain ⟨⟨u18, rfl, z19⟩, h17⟩ := h17
          have hS20 := hS4.tr h17 (by simp)
          show ml _ _ _ (58, [(0, .ref o), (1, .int i20_1)], [.int u18], M16) _
          refine ml_st (S' := (65, [], [.int u18], M16)) rfl rfl rfl ?_
          exact ml_ret rfl (r_z (qS_z z19)) (⟨⟨_, rfl, z19⟩, hS20⟩)
      · have c_25 : ¬ (((y9 &&& (-4)) + 4) ≤ i20_1) := of_decide_eq_false c_25
        refine ml_blk 2 (S' := (30, [(0, .ref o), (1, .int i20_1)], [.int i20_1, .ref o], M1)) rfl ?_
        refine ml_call (a := [.ref o, .int i20_1]) (rest := []) rfl (okc_t rfl rfl rfl hS4.1.1 hY0 (by decide)) rfl rfl (ti_u1 hS4.1.1 hY0 hY1 (by omega)) (fun v21 M22 h23 => ?_)
        obtain ⟨⟨u24, rfl⟩, h23⟩ := h23
        rw [h23]
        show ml _ _ _ (33, [(0, .ref o), (1, .int i20_1)], [.int u24], M1) _
        refine ml_if (S1 := (38, [(0, .ref o), (1, .int i20_1)], [], M1)) (S2 := (36, [(0, .ref o), (1, .int i20_1)], [], M1)) rfl rfl rfl (fun c_33 => ?_) (fun c_33 => ?_)
        · have c_33 : u24 = 0 := of_decide_eq_true c_33
          refine ml_st (S' := (41, [(1, .int (i20_1 + 1)), (0, .ref o)], [], M1)) rfl rfl rfl ?_
          refine ml_st (S' := (20, [(0, .ref o), (1, .int (i20_1 + 1))], [], M1)) rfl rfl rfl ?_
          exact ih_20 (i20_1 + 1) (loop_inc (Int32.not_le.mp c_25) hn_20) 
        · have c_33 : ¬ (u24 = 0) := of_decide_eq_false c_33
          refine ml_st (S' := (37, [(0, .ref o), (1, .int i20_1)], [.int 0], M1)) rfl rfl rfl ?_
          exact ml_ret rfl (r_z (Or.inl rfl)) (⟨⟨_, rfl, Or.inl rfl⟩, hS4⟩)
  exact L_20 _ (y9 + 1) (Nat.le_refl _) 
set_option maxHeartbeats 2000000 in
theorem ti_isTakenApart {g : xe_G} {M : mi_H} {Y : yT} {o b k da n : Nat} {x1 : Int32}  (hW : WF g Y M) (hY0 : Y.1 o = some (5, [b, k])) (hY1 : Y.1 b = some (1, [da, n])) {d : Nat} (hd : 6 ≤ d) : mt (mT g) d 98 [.ref o, .int x1] M (qS g Y o k x1 M) := by
  obtain ⟨d, rfl⟩ : ∃ e, d = e + 1 := ⟨d - 1, by omega⟩
  have hS : sf g Y [o] M M := sf.rf hW
  refine mt_in (b := mb_98 g) rfl rfl ?_
  show ml (mT g) d (mb_98 g).2 (0, [(0, .ref o), (1, .int x1)], [], M) _
  obtain ⟨hk, cl, hc2, -, hcl⟩ := hW.inst hY0
  refine ml_blk 2 (S' := (2, [(0, .ref o), (1, .int x1)], [.int x1, .ref o], M)) rfl ?_
  refine tp_put rfl hS.1 hY0 (by decide) rfl (⟨_, rfl⟩) rfl rfl (fun M1 hS2 f3 => ?_)
  have hS4 := hS.put hS2 f3 (by simp)
  have g5 := f3.2.1 2 _ (by decide) hc2
  show ml _ _ _ (5, [(0, .ref o), (1, .int x1)], [], M1) _
  refine ml_blk 3 (S' := (8, [(0, .ref o), (1, .int x1)], [.int x1, .ref o, .ref o], M1)) rfl ?_
  refine ml_call (a := [.ref o, .int x1]) (rest := [.ref o]) rfl (okc_t rfl rfl rfl hS4.1.1 hY0 (by decide)) rfl rfl (ti_u1 hS4.1.1 hY0 hY1 (by omega)) (fun v6 M7 h8 => ?_)
  obtain ⟨⟨u9, rfl⟩, h8⟩ := h8
  rw [h8]
  show ml _ _ _ (11, [(0, .ref o), (1, .int x1)], [.int u9, .ref o], M1) _
  refine tp_put rfl hS4.1 hY0 (by decide) rfl (⟨_, rfl⟩) rfl rfl (fun M10 hS11 f12 => ?_)
  have hS13 := hS4.put hS11 f12 (by simp)
  have g14 := f12.2.1 2 _ (by decide) g5
  have g15 := f12.2.1 9 _ (by decide) f3.2.2.1
  show ml _ _ _ (14, [(0, .ref o), (1, .int x1)], [], M10) _
  refine ml_blk 2 (S' := (16, [(0, .ref o), (1, .int x1)], [.int 1, .ref o], M10)) rfl ?_
  refine tp_put rfl hS13.1 hY0 (by decide) rfl (⟨_, rfl⟩) rfl rfl (fun M16 hS17 f18 => ?_)
  have hS19 := hS13.put hS17 f18 (by simp)
  have g20 := f18.2.1 2 _ (by decide) g14
  have g21 := f18.2.1 3 _ (by decide) f12.2.2.1
  have g22 := f18.2.1 9 _ (by decide) g15
  show ml _ _ _ (19, [(0, .ref o), (1, .int x1)], [], M16) _
  refine ml_blk 2 (S' := (21, [(0, .ref o), (1, .int x1)], [.int 0, .ref o], M16)) rfl ?_
  refine tp_put rfl hS19.1 hY0 (by decide) rfl (⟨_, rfl⟩) rfl rfl (fun M23 hS24 f25 => ?_)
  have hS26 := hS19.put hS24 f25 (by simp)
  have g27 := f25.2.1 2 _ (by decide) g20
  have g28 := f25.2.1 3 _ (by decide) g21
  have g29 := f25.2.1 9 _ (by decide) g22
  have g30 := f25.2.1 4 _ (by decide) f18.2.2.1
  show ml _ _ _ (24, [(0, .ref o), (1, .int x1)], [], M23) _
  refine ml_blk 2 (S' := (26, [(0, .ref o), (1, .int x1)], [.int 0, .ref o], M23)) rfl ?_
  refine tp_put rfl hS26.1 hY0 (by decide) rfl (⟨_, rfl⟩) rfl rfl (fun M31 hS32 f33 => ?_)
  have hS34 := hS26.put hS32 f33 (by simp)
  have g35 := f33.2.1 2 _ (by decide) g27
  have g36 := f33.2.1 3 _ (by decide) g28
  have g37 := f33.2.1 9 _ (by decide) g29
  have g38 := f33.2.1 4 _ (by decide) g30
  show ml _ _ _ (29, [(0, .ref o), (1, .int x1)], [], M31) _
  refine ml_blk 2 (S' := (31, [(0, .ref o), (1, .int x1)], [.int 0, .ref o], M31)) rfl ?_
  refine tp_put rfl hS34.1 hY0 (by decide) rfl (⟨_, rfl⟩) rfl rfl (fun M39 hS40 f41 => ?_)
  have hS42 := hS34.put hS40 f41 (by simp)
  have g43 := f41.2.1 2 _ (by decide) g35
  have g44 := f41.2.1 3 _ (by decide) g36
  have g45 := f41.2.1 9 _ (by decide) g37
  have g46 := f41.2.1 4 _ (by decide) g38
  show ml _ _ _ (34, [(0, .ref o), (1, .int x1)], [], M39) _
  refine ml_blk 2 (S' := (36, [(0, .ref o), (1, .int x1)], [.int 0, .ref o], M39)) rfl ?_
  refine tp_put rfl hS42.1 hY0 (by decide) rfl (⟨_, rfl⟩) rfl rfl (fun M47 hS48 f49 => ?_)
  have hS50 := hS42.put hS48 f49 (by simp)
  have g51 := f49.2.1 2 _ (by decide) g43
  have g52 := f49.2.1 3 _ (by decide) g44
  have g53 := f49.2.1 9 _ (by decide) g45
  have g54 := f49.2.1 4 _ (by decide) g46
  show ml _ _ _ (39, [(0, .ref o), (1, .int x1)], [], M47) _
  refine ml_st (S' := (40, [(0, .ref o), (1, .int x1)], [.int x1], M47)) rfl rfl rfl ?_
  refine ml_if (S1 := (61, [], [], M47)) (S2 := (43, [(0, .ref o), (1, .int x1)], [], M47)) rfl rfl rfl (fun c_40 => ?_) (fun c_40 => ?_)
  · have c_40 : x1 < 0 := of_decide_eq_true c_40
    refine ml_st (S' := (62, [], [.int 0], M47)) rfl rfl rfl ?_
    exact ml_ret rfl (r_z (Or.inl rfl)) (⟨⟨_, rfl, Or.inl rfl⟩, hS50⟩)
  · have c_40 : ¬ (x1 < 0) := of_decide_eq_false c_40
    refine ml_blk 2 (S' := (45, [(0, .ref o), (1, .int x1)], [.ref o, .int x1], M47)) rfl ?_
    refine ml_get (S' := (48, [(0, .ref o), (1, .int x1)], [.int cl, .int x1], M47)) rfl g51 rfl ?_
    refine ml_if2 (S1 := (61, [], [], M47)) (S2 := (51, [(0, .ref o), (1, .int x1)], [], M47)) rfl rfl rfl (fun c_48 => ?_) (fun c_48 => ?_)
    · have c_48 : cl ≤ x1 := of_decide_eq_true c_48
      refine ml_st (S' := (62, [], [.int 0], M47)) rfl rfl rfl ?_
      exact ml_ret rfl (r_z (Or.inl rfl)) (⟨⟨_, rfl, Or.inl rfl⟩, hS50⟩)
    · have c_48 : ¬ (cl ≤ x1) := of_decide_eq_false c_48
      refine ml_st (S' := (52, [(0, .ref o), (1, .int x1)], [.ref o], M47)) rfl rfl rfl ?_
      refine ml_get (S' := (55, [(0, .ref o), (1, .int x1)], [.int u9], M47)) rfl g52 rfl ?_
      refine ml_st (S' := (58, [(0, .ref o), (1, .int x1)], [.int 201, .int u9], M47)) rfl rfl rfl ?_
      refine ml_if2 (S1 := (63, [(0, .ref o), (1, .int x1)], [], M47)) (S2 := (61, [], [], M47)) rfl rfl rfl (fun c_58 => ?_) (fun c_58 => ?_)
      · have c_58 : u9 ≤ 201 := of_decide_eq_true c_58
        refine ml_st (S' := (64, [(0, .ref o), (1, .int x1)], [.ref o], M47)) rfl rfl rfl ?_
        refine ml_call (a := [.ref o]) (rest := []) rfl (okc_t rfl rfl rfl hS50.1.1 hY0 (by decide)) rfl rfl (ti_isSwitch hS50.1.1 hY0 hY1 (by omega)) (fun v55 M56 h57 => ?_)
        obtain ⟨⟨u58, rfl, z59⟩, h57⟩ := h57
        rw [h57]
        show ml _ _ _ (67, [(0, .ref o), (1, .int x1)], [.int u58], M47) _
        refine ml_if (S1 := (75, [(0, .ref o), (1, .int x1)], [], M47)) (S2 := (70, [(0, .ref o), (1, .int x1)], [], M47)) rfl rfl rfl (fun c_67 => ?_) (fun c_67 => ?_)
        · have c_67 : u58 = 0 := of_decide_eq_true c_67
          refine ml_st (S' := (76, [(0, .ref o), (1, .int x1)], [.ref o], M47)) rfl rfl rfl ?_
          refine ml_get (S' := (79, [(0, .ref o), (1, .int x1)], [.int u9], M47)) rfl g52 rfl ?_
          refine ml_st (S' := (82, [(0, .ref o), (1, .int x1)], [.int 196, .int u9], M47)) rfl rfl rfl ?_
          refine ml_if2 (S1 := (90, [(0, .ref o), (1, .int x1)], [], M47)) (S2 := (85, [(0, .ref o), (1, .int x1)], [], M47)) rfl rfl rfl (fun c_82 => ?_) (fun c_82 => ?_)
          · have c_82 : ¬ u9 = 196 := of_decide_eq_true c_82
            refine ml_blk 2 (S' := (92, [(0, .ref o), (1, .int x1)], [.ref o, .ref o], M47)) rfl ?_
            refine ml_get (S' := (95, [(0, .ref o), (1, .int x1)], [.int u9, .ref o], M47)) rfl g52 rfl ?_
            refine ml_call (a := [.int u9]) (rest := [.ref o]) rfl (rfl) rfl rfl (ti_sizeOf hS50.1.1  (by omega)) (fun v60 M61 h62 => ?_)
            obtain ⟨⟨u63, rfl, z64⟩, h62⟩ := h62
            rw [h62]
            show ml _ _ _ (98, [(0, .ref o), (1, .int x1)], [.int u63, .ref o], M47) _
            refine tp_put rfl hS50.1 hY0 (by decide) rfl (⟨_, rfl⟩) rfl rfl (fun M65 hS66 f67 => ?_)
            have hS68 := hS50.put hS66 f67 (by simp)
            have g69 := f67.2.1 2 _ (by decide) g51
            have g70 := f67.2.1 3 _ (by decide) g52
            have g71 := f67.2.1 9 _ (by decide) g53
            show ml _ _ _ (101, [(0, .ref o), (1, .int x1)], [], M65) _
            refine ml_st (S' := (102, [(0, .ref o), (1, .int x1)], [.ref o], M65)) rfl rfl rfl ?_
            refine ml_get (S' := (105, [(0, .ref o), (1, .int x1)], [.int u63], M65)) rfl f67.2.2.1 rfl ?_
            refine ml_st (S' := (106, [(0, .ref o), (1, .int x1)], [.ref o, .int u63], M65)) rfl rfl rfl ?_
            refine ml_get (S' := (109, [(0, .ref o), (1, .int x1)], [.int cl, .int u63], M65)) rfl g69 rfl ?_
            refine ml_st (S' := (110, [(0, .ref o), (1, .int x1)], [.ref o, .int cl, .int u63], M65)) rfl rfl rfl ?_
            refine ml_get (S' := (113, [(0, .ref o), (1, .int x1)], [.int x1, .int cl, .int u63], M65)) rfl g71 rfl ?_
            refine ml_st (S' := (114, [(0, .ref o), (1, .int x1)], [.int (cl - x1), .int u63], M65)) rfl rfl rfl ?_
            refine ml_if2 (S1 := (128, [], [], M65)) (S2 := (117, [(0, .ref o), (1, .int x1)], [], M65)) rfl rfl rfl (fun c_114 => ?_) (fun c_114 => ?_)
            · have c_114 : (cl - x1) < u63 := of_decide_eq_true c_114
              refine ml_st (S' := (129, [], [.int 0], M65)) rfl rfl rfl ?_
              exact ml_ret rfl (r_z (Or.inl rfl)) (⟨⟨_, rfl, Or.inl rfl⟩, hS68⟩)
            · have c_114 : ¬ ((cl - x1) < u63) := of_decide_eq_false c_114
              refine ml_st (S' := (118, [(0, .ref o), (1, .int x1)], [.ref o], M65)) rfl rfl rfl ?_
              refine ml_call (a := [.ref o]) (rest := []) rfl (okc_t rfl rfl rfl hS68.1.1 hY0 (by decide)) rfl rfl (ti_areOperandsTaken hS68.1.1 hY0 hY1 (by omega)) (fun v72 M73 h74 => ?_)
              obtain ⟨⟨u75, rfl, z76⟩, h74⟩ := h74
              have g77 := h74.2 2 _ rfl g69
              have g78 := h74.2 9 _ rfl g71
              have g79 := h74.2 4 _ rfl f67.2.2.1
              have hS80 := hS68.tr h74.1 (by simp)
              show ml _ _ _ (121, [(0, .ref o), (1, .int x1)], [.int u75], M73) _
              refine ml_if (S1 := (128, [], [], M73)) (S2 := (124, [(0, .ref o), (1, .int x1)], [], M73)) rfl rfl rfl (fun c_121 => ?_) (fun c_121 => ?_)
              · have c_121 : u75 = 0 := of_decide_eq_true c_121
                refine ml_st (S' := (129, [], [.int 0], M73)) rfl rfl rfl ?_
                exact ml_ret rfl (r_z (Or.inl rfl)) (⟨⟨_, rfl, Or.inl rfl⟩, hS80⟩)
              · have c_121 : ¬ (u75 = 0) := of_decide_eq_false c_121
                refine ml_st (S' := (125, [(0, .ref o), (1, .int x1)], [.int 1], M73)) rfl rfl rfl ?_
                refine ml_st (S' := (129, [], [.int 1], M73)) rfl rfl rfl ?_
                exact ml_ret rfl (r_z (Or.inr rfl)) (⟨⟨_, rfl, Or.inr ⟨rfl, _, g79, z64, sz_in hk hcl (nneg c_40) (i_nle c_48) (Int32.not_lt.mp c_114)⟩⟩, hS80⟩)
          · have c_82 : ¬ (¬ u9 = 196) := of_decide_eq_false c_82
            refine ml_st (S' := (86, [(0, .ref o), (1, .int x1)], [.ref o], M47)) rfl rfl rfl ?_
            refine ml_call (a := [.ref o]) (rest := []) rfl (okc_t rfl rfl rfl hS50.1.1 hY0 (by decide)) rfl rfl (ti_isWideTaken hS50.1.1 hY0 hY1 g51 g53 (hk) (hcl) (nneg c_40) (i_nle c_48) (by omega)) (fun v81 M82 h83 => ?_)
            obtain ⟨⟨u84, rfl, z85⟩, h83⟩ := h83
            have hS86 := hS50.tr h83 (by simp)
            show ml _ _ _ (89, [(0, .ref o), (1, .int x1)], [.int u84], M82) _
            exact ml_ret rfl (r_z (qS_z z85)) (⟨⟨_, rfl, z85⟩, hS86⟩)
        · have c_67 : ¬ (u58 = 0) := of_decide_eq_false c_67
          refine ml_st (S' := (71, [(0, .ref o), (1, .int x1)], [.ref o], M47)) rfl rfl rfl ?_
          refine ml_call (a := [.ref o]) (rest := []) rfl (okc_t rfl rfl rfl hS50.1.1 hY0 (by decide)) rfl rfl (ti_isSwitchTaken hS50.1.1 hY0 hY1 g51 g53 (hk) (hcl) (nneg c_40) (i_nle c_48) (by omega)) (fun v87 M88 h89 => ?_)
          obtain ⟨⟨u90, rfl, z91⟩, h89⟩ := h89
          have hS92 := hS50.tr h89 (by simp)
          show ml _ _ _ (74, [(0, .ref o), (1, .int x1)], [.int u90], M88) _
          exact ml_ret rfl (r_z (qS_z z91)) (⟨⟨_, rfl, z91⟩, hS92⟩)
      · have c_58 : ¬ (u9 ≤ 201) := of_decide_eq_false c_58
        refine ml_st (S' := (62, [], [.int 0], M47)) rfl rfl rfl ?_
        exact ml_ret rfl (r_z (Or.inl rfl)) (⟨⟨_, rfl, Or.inl rfl⟩, hS50⟩)
end
section
/-! the code of a method (laid by wip/p2/c46.py) -/
set_option maxHeartbeats 2000000 in
theorem tw_Co_isMethodOfEither {g : xe_G} {M : mi_H} {Y : yT} {a p o k b da n : Nat} {pp : List Nat} {x1 : Int32}  (hW : WF g Y M) (hY0 : Y.1 a = some (4, [p, o, k])) (hY1 : Y.1 p = some (7, pp)) (hY2 : Y.1 o = some (5, [b, k])) (hY3 : Y.1 b = some (1, [da, n])) {d : Nat} (hd : 1 ≤ d) : mt (mT g) d 78 [.ref a, .int x1] M (pZ M) := by
  obtain ⟨d, rfl⟩ : ∃ e, d = e + 1 := ⟨d - 1, by omega⟩
  have hS : st g Y M M := st.rf hW
  refine mt_in (b := mb_78 g) rfl rfl ?_
  show ml (mT g) d (mb_78 g).2 (0, [(0, .ref a), (1, .int x1)], [], M) _
  refine ml_blk 2 (S' := (3, [(0, .ref a), (1, .int x1)], [.int 10, .int x1], M)) rfl ?_
  refine ml_if2 (S1 := (21, [], [], M)) (S2 := (6, [(0, .ref a), (1, .int x1)], [], M)) rfl rfl rfl (fun c_3 => ?_) (fun c_3 => ?_)
  · have c_3 : x1 = 10 := of_decide_eq_true c_3
    refine ml_st (S' := (22, [], [.int 1], M)) rfl rfl rfl ?_
    refine ml_st (S' := (26, [], [.int 1], M)) rfl rfl rfl ?_
    exact ml_ret rfl (r_z (Or.inr rfl)) (⟨⟨_, rfl, Or.inr rfl⟩, rfl⟩)
  · have c_3 : ¬ (x1 = 10) := of_decide_eq_false c_3
    refine ml_blk 2 (S' := (9, [(0, .ref a), (1, .int x1)], [.int 11, .int x1], M)) rfl ?_
    refine ml_if2 (S1 := (25, [], [], M)) (S2 := (12, [(0, .ref a), (1, .int x1)], [], M)) rfl rfl rfl (fun c_9 => ?_) (fun c_9 => ?_)
    · have c_9 : ¬ x1 = 11 := of_decide_eq_true c_9
      refine ml_st (S' := (26, [], [.int 0], M)) rfl rfl rfl ?_
      exact ml_ret rfl (r_z (Or.inl rfl)) (⟨⟨_, rfl, Or.inl rfl⟩, rfl⟩)
    · have c_9 : ¬ (¬ x1 = 11) := of_decide_eq_false c_9
      refine ml_st (S' := (13, [(0, .ref a), (1, .int x1)], [.ref a], M)) rfl rfl rfl ?_
      refine tg_int rfl hS.1 hY0 (by decide) rfl (fun u1 g2 => ?_)
      show ml _ _ _ (16, [(0, .ref a), (1, .int x1)], [.int u1], M) _
      refine ml_st (S' := (18, [(0, .ref a), (1, .int x1)], [.int 52, .int u1], M)) rfl rfl rfl ?_
      refine ml_if2 (S1 := (25, [], [], M)) (S2 := (21, [], [], M)) rfl rfl rfl (fun c_18 => ?_) (fun c_18 => ?_)
      · have c_18 : u1 < 52 := of_decide_eq_true c_18
        refine ml_st (S' := (26, [], [.int 0], M)) rfl rfl rfl ?_
        exact ml_ret rfl (r_z (Or.inl rfl)) (⟨⟨_, rfl, Or.inl rfl⟩, rfl⟩)
      · have c_18 : ¬ (u1 < 52) := of_decide_eq_false c_18
        refine ml_st (S' := (22, [], [.int 1], M)) rfl rfl rfl ?_
        refine ml_st (S' := (26, [], [.int 1], M)) rfl rfl rfl ?_
        exact ml_ret rfl (r_z (Or.inr rfl)) (⟨⟨_, rfl, Or.inr rfl⟩, rfl⟩)
set_option maxHeartbeats 2000000 in
theorem tw_Co_isOfTwoPlaces {g : xe_G} {M : mi_H} {Y : yT} {a p o k b da n : Nat} {pp : List Nat} {x1 : Int32}  (hW : WF g Y M) (hY0 : Y.1 a = some (4, [p, o, k])) (hY1 : Y.1 p = some (7, pp)) (hY2 : Y.1 o = some (5, [b, k])) (hY3 : Y.1 b = some (1, [da, n])) {d : Nat} (hd : 3 ≤ d) : mt (mT g) d 79 [.ref a, .int x1] M (pZ M) := by
  obtain ⟨d, rfl⟩ : ∃ e, d = e + 1 := ⟨d - 1, by omega⟩
  have hS : st g Y M M := st.rf hW
  refine mt_in (b := mb_79 g) rfl rfl ?_
  show ml (mT g) d (mb_79 g).2 (0, [(0, .ref a), (1, .int x1)], [], M) _
  refine ml_blk 2 (S' := (2, [(0, .ref a), (1, .int x1)], [.int 5, .int x1], M)) rfl ?_
  refine ml_if2 (S1 := (42, [], [], M)) (S2 := (5, [(0, .ref a), (1, .int x1)], [], M)) rfl rfl rfl (fun c_2 => ?_) (fun c_2 => ?_)
  · have c_2 : x1 = 5 := of_decide_eq_true c_2
    refine ml_st (S' := (43, [], [.int 1], M)) rfl rfl rfl ?_
    refine ml_st (S' := (47, [], [.int 1], M)) rfl rfl rfl ?_
    exact ml_ret rfl (r_z (Or.inr rfl)) (⟨⟨_, rfl, Or.inr rfl⟩, rfl⟩)
  · have c_2 : ¬ (x1 = 5) := of_decide_eq_false c_2
    refine ml_blk 2 (S' := (8, [(0, .ref a), (1, .int x1)], [.int 6, .int x1], M)) rfl ?_
    refine ml_if2 (S1 := (42, [], [], M)) (S2 := (11, [(0, .ref a), (1, .int x1)], [], M)) rfl rfl rfl (fun c_8 => ?_) (fun c_8 => ?_)
    · have c_8 : x1 = 6 := of_decide_eq_true c_8
      refine ml_st (S' := (43, [], [.int 1], M)) rfl rfl rfl ?_
      refine ml_st (S' := (47, [], [.int 1], M)) rfl rfl rfl ?_
      exact ml_ret rfl (r_z (Or.inr rfl)) (⟨⟨_, rfl, Or.inr rfl⟩, rfl⟩)
    · have c_8 : ¬ (x1 = 6) := of_decide_eq_false c_8
      refine ml_blk 2 (S' := (14, [(0, .ref a), (1, .int x1)], [.int 17, .int x1], M)) rfl ?_
      refine ml_if2 (S1 := (46, [], [], M)) (S2 := (17, [(0, .ref a), (1, .int x1)], [], M)) rfl rfl rfl (fun c_14 => ?_) (fun c_14 => ?_)
      · have c_14 : ¬ x1 = 17 := of_decide_eq_true c_14
        refine ml_st (S' := (47, [], [.int 0], M)) rfl rfl rfl ?_
        exact ml_ret rfl (r_z (Or.inl rfl)) (⟨⟨_, rfl, Or.inl rfl⟩, rfl⟩)
      · have c_14 : ¬ (¬ x1 = 17) := of_decide_eq_false c_14
        refine ml_st (S' := (18, [(0, .ref a), (1, .int x1)], [.ref a], M)) rfl rfl rfl ?_
        refine tg_ref (S' := (21, [(0, .ref a), (1, .int x1)], [.ref p], M)) rfl hS.1 hY0 (by decide) rfl rfl ?_
        refine ml_st (S' := (22, [(0, .ref a), (1, .int x1)], [.ref a, .ref p], M)) rfl rfl rfl ?_
        refine tg_ref (S' := (25, [(0, .ref a), (1, .int x1)], [.ref p, .ref p], M)) rfl hS.1 hY0 (by decide) rfl rfl ?_
        refine ml_st (S' := (26, [(0, .ref a), (1, .int x1)], [.ref a, .ref p, .ref p], M)) rfl rfl rfl ?_
        refine tg_ref (S' := (29, [(0, .ref a), (1, .int x1)], [.ref o, .ref p, .ref p], M)) rfl hS.1 hY0 (by decide) rfl rfl ?_
        refine tg_int rfl hS.1 hY2 (by decide) rfl (fun u1 g2 => ?_)
        show ml _ _ _ (32, [(0, .ref a), (1, .int x1)], [.int u1, .ref p, .ref p], M) _
        refine ml_call (a := [.ref p, .int u1]) (rest := [.ref p]) rfl (okc_t rfl rfl rfl hS.1 hY1 (by decide)) rfl rfl (tq_descriptorOf hS.1 hY1 (by omega)) (fun v3 M4 h5 => ?_)
        obtain ⟨⟨u6, rfl⟩, h5⟩ := h5
        rw [h5]
        show ml _ _ _ (35, [(0, .ref a), (1, .int x1)], [.int u6, .ref p], M) _
        refine ml_call (a := [.ref p, .int u6]) (rest := []) rfl (okc_t rfl rfl rfl hS.1 hY1 (by decide)) rfl rfl (tq_placesTold hS.1 hY1 (by omega)) (fun v7 M8 h9 => ?_)
        obtain ⟨⟨u10, rfl⟩, h9⟩ := h9
        rw [h9]
        show ml _ _ _ (38, [(0, .ref a), (1, .int x1)], [.int u10], M) _
        refine ml_st (S' := (39, [(0, .ref a), (1, .int x1)], [.int 2, .int u10], M)) rfl rfl rfl ?_
        refine ml_if2 (S1 := (46, [], [], M)) (S2 := (42, [], [], M)) rfl rfl rfl (fun c_39 => ?_) (fun c_39 => ?_)
        · have c_39 : ¬ u10 = 2 := of_decide_eq_true c_39
          refine ml_st (S' := (47, [], [.int 0], M)) rfl rfl rfl ?_
          exact ml_ret rfl (r_z (Or.inl rfl)) (⟨⟨_, rfl, Or.inl rfl⟩, rfl⟩)
        · have c_39 : ¬ (¬ u10 = 2) := of_decide_eq_false c_39
          refine ml_st (S' := (43, [], [.int 1], M)) rfl rfl rfl ?_
          refine ml_st (S' := (47, [], [.int 1], M)) rfl rfl rfl ?_
          exact ml_ret rfl (r_z (Or.inr rfl)) (⟨⟨_, rfl, Or.inr rfl⟩, rfl⟩)
set_option maxHeartbeats 2000000 in
theorem tw_Co_isLoadedByLdc {g : xe_G} {M : mi_H} {Y : yT} {a p o k b da n : Nat} {pp : List Nat} {x1 : Int32}  (hW : WF g Y M) (hY0 : Y.1 a = some (4, [p, o, k])) (hY1 : Y.1 p = some (7, pp)) (hY2 : Y.1 o = some (5, [b, k])) (hY3 : Y.1 b = some (1, [da, n])) {d : Nat} (hd : 3 ≤ d) : mt (mT g) d 77 [.ref a, .int x1] M (pZ M) := by
  obtain ⟨d, rfl⟩ : ∃ e, d = e + 1 := ⟨d - 1, by omega⟩
  have hS : st g Y M M := st.rf hW
  refine mt_in (b := mb_77 g) rfl rfl ?_
  show ml (mT g) d (mb_77 g).2 (0, [(0, .ref a), (1, .int x1)], [], M) _
  refine ml_st (S' := (1, [(0, .ref a), (1, .int x1)], [.int x1], M)) rfl rfl rfl ?_
  refine ml_sw rfl (fun t_1 ht_1 => ?_)
  have kt_1 := ht_1
  have ht_1 : t_1 ∈ [76, 78, 93, 108, 148] := mi_sw_sub ht_1 (by decide)
  simp only [List.mem_cons, List.not_mem_nil, or_false] at ht_1
  rcases ht_1 with rfl | rfl | rfl | rfl | rfl
  · show ml _ _ _ (76, [(0, .ref a), (1, .int x1)], [], M) _
    refine ml_st (S' := (77, [(0, .ref a), (1, .int x1)], [.int 1], M)) rfl rfl rfl ?_
    exact ml_ret rfl (r_z (Or.inr rfl)) (⟨⟨_, rfl, Or.inr rfl⟩, rfl⟩)
  · show ml _ _ _ (78, [(0, .ref a), (1, .int x1)], [], M) _
    refine ml_st (S' := (79, [(0, .ref a), (1, .int x1)], [.ref a], M)) rfl rfl rfl ?_
    refine tg_int rfl hS.1 hY0 (by decide) rfl (fun u1 g2 => ?_)
    show ml _ _ _ (82, [(0, .ref a), (1, .int x1)], [.int u1], M) _
    refine ml_st (S' := (84, [(0, .ref a), (1, .int x1)], [.int 49, .int u1], M)) rfl rfl rfl ?_
    refine ml_if2 (S1 := (91, [(0, .ref a), (1, .int x1)], [], M)) (S2 := (87, [(0, .ref a), (1, .int x1)], [], M)) rfl rfl rfl (fun c_84 => ?_) (fun c_84 => ?_)
    · have c_84 : u1 < 49 := of_decide_eq_true c_84
      refine ml_st (S' := (92, [], [.int 0], M)) rfl rfl rfl ?_
      exact ml_ret rfl (r_z (Or.inl rfl)) (⟨⟨_, rfl, Or.inl rfl⟩, rfl⟩)
    · have c_84 : ¬ (u1 < 49) := of_decide_eq_false c_84
      refine ml_st (S' := (88, [(0, .ref a), (1, .int x1)], [.int 1], M)) rfl rfl rfl ?_
      refine ml_st (S' := (92, [], [.int 1], M)) rfl rfl rfl ?_
      exact ml_ret rfl (r_z (Or.inr rfl)) (⟨⟨_, rfl, Or.inr rfl⟩, rfl⟩)
  · show ml _ _ _ (93, [(0, .ref a), (1, .int x1)], [], M) _
    refine ml_st (S' := (94, [(0, .ref a), (1, .int x1)], [.ref a], M)) rfl rfl rfl ?_
    refine tg_int rfl hS.1 hY0 (by decide) rfl (fun u3 g4 => ?_)
    show ml _ _ _ (97, [(0, .ref a), (1, .int x1)], [.int u3], M) _
    refine ml_st (S' := (99, [(0, .ref a), (1, .int x1)], [.int 51, .int u3], M)) rfl rfl rfl ?_
    refine ml_if2 (S1 := (106, [(0, .ref a), (1, .int x1)], [], M)) (S2 := (102, [(0, .ref a), (1, .int x1)], [], M)) rfl rfl rfl (fun c_99 => ?_) (fun c_99 => ?_)
    · have c_99 : u3 < 51 := of_decide_eq_true c_99
      refine ml_st (S' := (107, [], [.int 0], M)) rfl rfl rfl ?_
      exact ml_ret rfl (r_z (Or.inl rfl)) (⟨⟨_, rfl, Or.inl rfl⟩, rfl⟩)
    · have c_99 : ¬ (u3 < 51) := of_decide_eq_false c_99
      refine ml_st (S' := (103, [(0, .ref a), (1, .int x1)], [.int 1], M)) rfl rfl rfl ?_
      refine ml_st (S' := (107, [], [.int 1], M)) rfl rfl rfl ?_
      exact ml_ret rfl (r_z (Or.inr rfl)) (⟨⟨_, rfl, Or.inr rfl⟩, rfl⟩)
  · show ml _ _ _ (108, [(0, .ref a), (1, .int x1)], [], M) _
    refine ml_st (S' := (109, [(0, .ref a), (1, .int x1)], [.ref a], M)) rfl rfl rfl ?_
    refine tg_int rfl hS.1 hY0 (by decide) rfl (fun u5 g6 => ?_)
    show ml _ _ _ (112, [(0, .ref a), (1, .int x1)], [.int u5], M) _
    refine ml_st (S' := (114, [(0, .ref a), (1, .int x1)], [.int 55, .int u5], M)) rfl rfl rfl ?_
    refine ml_if2 (S1 := (146, [], [], M)) (S2 := (117, [(0, .ref a), (1, .int x1)], [], M)) rfl rfl rfl (fun c_114 => ?_) (fun c_114 => ?_)
    · have c_114 : u5 < 55 := of_decide_eq_true c_114
      refine ml_st (S' := (147, [], [.int 0], M)) rfl rfl rfl ?_
      exact ml_ret rfl (r_z (Or.inl rfl)) (⟨⟨_, rfl, Or.inl rfl⟩, rfl⟩)
    · have c_114 : ¬ (u5 < 55) := of_decide_eq_false c_114
      refine ml_st (S' := (118, [(0, .ref a), (1, .int x1)], [.ref a], M)) rfl rfl rfl ?_
      refine tg_ref (S' := (121, [(0, .ref a), (1, .int x1)], [.ref p], M)) rfl hS.1 hY0 (by decide) rfl rfl ?_
      refine ml_st (S' := (122, [(0, .ref a), (1, .int x1)], [.ref a, .ref p], M)) rfl rfl rfl ?_
      refine tg_ref (S' := (125, [(0, .ref a), (1, .int x1)], [.ref p, .ref p], M)) rfl hS.1 hY0 (by decide) rfl rfl ?_
      refine ml_st (S' := (126, [(0, .ref a), (1, .int x1)], [.ref a, .ref p, .ref p], M)) rfl rfl rfl ?_
      refine tg_ref (S' := (129, [(0, .ref a), (1, .int x1)], [.ref o, .ref p, .ref p], M)) rfl hS.1 hY0 (by decide) rfl rfl ?_
      refine tg_int rfl hS.1 hY2 (by decide) rfl (fun u7 g8 => ?_)
      show ml _ _ _ (132, [(0, .ref a), (1, .int x1)], [.int u7, .ref p, .ref p], M) _
      refine ml_call (a := [.ref p, .int u7]) (rest := [.ref p]) rfl (okc_t rfl rfl rfl hS.1 hY1 (by decide)) rfl rfl (tq_descriptorOf hS.1 hY1 (by omega)) (fun v9 M10 h11 => ?_)
      obtain ⟨⟨u12, rfl⟩, h11⟩ := h11
      rw [h11]
      show ml _ _ _ (135, [(0, .ref a), (1, .int x1)], [.int u12, .ref p], M) _
      refine ml_call (a := [.ref p, .int u12]) (rest := []) rfl (okc_t rfl rfl rfl hS.1 hY1 (by decide)) rfl rfl (tq_placesTold hS.1 hY1 (by omega)) (fun v13 M14 h15 => ?_)
      obtain ⟨⟨u16, rfl⟩, h15⟩ := h15
      rw [h15]
      show ml _ _ _ (138, [(0, .ref a), (1, .int x1)], [.int u16], M) _
      refine ml_st (S' := (139, [(0, .ref a), (1, .int x1)], [.int 1, .int u16], M)) rfl rfl rfl ?_
      refine ml_if2 (S1 := (146, [], [], M)) (S2 := (142, [(0, .ref a), (1, .int x1)], [], M)) rfl rfl rfl (fun c_139 => ?_) (fun c_139 => ?_)
      · have c_139 : ¬ u16 = 1 := of_decide_eq_true c_139
        refine ml_st (S' := (147, [], [.int 0], M)) rfl rfl rfl ?_
        exact ml_ret rfl (r_z (Or.inl rfl)) (⟨⟨_, rfl, Or.inl rfl⟩, rfl⟩)
      · have c_139 : ¬ (¬ u16 = 1) := of_decide_eq_false c_139
        refine ml_st (S' := (143, [(0, .ref a), (1, .int x1)], [.int 1], M)) rfl rfl rfl ?_
        refine ml_st (S' := (147, [], [.int 1], M)) rfl rfl rfl ?_
        exact ml_ret rfl (r_z (Or.inr rfl)) (⟨⟨_, rfl, Or.inr rfl⟩, rfl⟩)
  · show ml _ _ _ (148, [(0, .ref a), (1, .int x1)], [], M) _
    refine ml_st (S' := (149, [(0, .ref a), (1, .int x1)], [.int 0], M)) rfl rfl rfl ?_
    exact ml_ret rfl (r_z (Or.inl rfl)) (⟨⟨_, rfl, Or.inl rfl⟩, rfl⟩)
set_option maxHeartbeats 2000000 in
theorem tw_Co_callHolds {g : xe_G} {M : mi_H} {Y : yT} {a p o k b da n : Nat} {pp : List Nat} {x1 : Int32}  (hW : WF g Y M) (hY0 : Y.1 a = some (4, [p, o, k])) (hY1 : Y.1 p = some (7, pp)) (hY2 : Y.1 o = some (5, [b, k])) (hY3 : Y.1 b = some (1, [da, n])) {d : Nat} (hd : 4 ≤ d) : mt (mT g) d 75 [.ref a, .int x1] M (pZ M) := by
  obtain ⟨d, rfl⟩ : ∃ e, d = e + 1 := ⟨d - 1, by omega⟩
  have hS : st g Y M M := st.rf hW
  refine mt_in (b := mb_75 g) rfl rfl ?_
  show ml (mT g) d (mb_75 g).2 (0, [(0, .ref a), (1, .int x1)], [], M) _
  refine ml_st (S' := (1, [(0, .ref a), (1, .int x1)], [.ref a], M)) rfl rfl rfl ?_
  refine tg_ref (S' := (4, [(0, .ref a), (1, .int x1)], [.ref o], M)) rfl hS.1 hY0 (by decide) rfl rfl ?_
  refine tg_int rfl hS.1 hY2 (by decide) rfl (fun u1 g2 => ?_)
  show ml _ _ _ (7, [(0, .ref a), (1, .int x1)], [.int u1], M) _
  refine ml_sw rfl (fun t_7 ht_7 => ?_)
  have kt_7 := ht_7
  have ht_7 : t_7 ∈ [40, 69, 75, 106, 151, 163] := mi_sw_sub ht_7 (by decide)
  simp only [List.mem_cons, List.not_mem_nil, or_false] at ht_7
  rcases ht_7 with rfl | rfl | rfl | rfl | rfl | rfl
  · show ml _ _ _ (40, [(0, .ref a), (1, .int x1)], [], M) _
    refine ml_blk 2 (S' := (43, [(0, .ref a), (1, .int x1)], [.int 10, .int x1], M)) rfl ?_
    refine ml_if2 (S1 := (67, [], [], M)) (S2 := (46, [(0, .ref a), (1, .int x1)], [], M)) rfl rfl rfl (fun c_43 => ?_) (fun c_43 => ?_)
    · have c_43 : ¬ x1 = 10 := of_decide_eq_true c_43
      refine ml_st (S' := (68, [], [.int 0], M)) rfl rfl rfl ?_
      exact ml_ret rfl (r_z (Or.inl rfl)) (⟨⟨_, rfl, Or.inl rfl⟩, rfl⟩)
    · have c_43 : ¬ (¬ x1 = 10) := of_decide_eq_false c_43
      refine ml_st (S' := (47, [(0, .ref a), (1, .int x1)], [.ref a], M)) rfl rfl rfl ?_
      refine tg_ref (S' := (50, [(0, .ref a), (1, .int x1)], [.ref p], M)) rfl hS.1 hY0 (by decide) rfl rfl ?_
      refine ml_st (S' := (51, [(0, .ref a), (1, .int x1)], [.ref a, .ref p], M)) rfl rfl rfl ?_
      refine tg_ref (S' := (54, [(0, .ref a), (1, .int x1)], [.ref o, .ref p], M)) rfl hS.1 hY0 (by decide) rfl rfl ?_
      refine tg_int rfl hS.1 hY2 (by decide) rfl (fun u3 g4 => ?_)
      show ml _ _ _ (57, [(0, .ref a), (1, .int x1)], [.int u3, .ref p], M) _
      refine ml_call (a := [.ref p, .int u3]) (rest := []) rfl (okc_t rfl rfl rfl hS.1 hY1 (by decide)) rfl rfl (tw_Po_namesInit hS.1 hY1 (by omega)) (fun v5 M6 h7 => ?_)
      obtain ⟨⟨u8, rfl, z9⟩, h7⟩ := h7
      rw [h7]
      show ml _ _ _ (60, [(0, .ref a), (1, .int x1)], [.int u8], M) _
      refine ml_if (S1 := (67, [], [], M)) (S2 := (63, [(0, .ref a), (1, .int x1)], [], M)) rfl rfl rfl (fun c_60 => ?_) (fun c_60 => ?_)
      · have c_60 : ¬ u8 = 0 := of_decide_eq_true c_60
        refine ml_st (S' := (68, [], [.int 0], M)) rfl rfl rfl ?_
        exact ml_ret rfl (r_z (Or.inl rfl)) (⟨⟨_, rfl, Or.inl rfl⟩, rfl⟩)
      · have c_60 : ¬ (¬ u8 = 0) := of_decide_eq_false c_60
        refine ml_st (S' := (64, [(0, .ref a), (1, .int x1)], [.int 1], M)) rfl rfl rfl ?_
        refine ml_st (S' := (68, [], [.int 1], M)) rfl rfl rfl ?_
        exact ml_ret rfl (r_z (Or.inr rfl)) (⟨⟨_, rfl, Or.inr rfl⟩, rfl⟩)
  · show ml _ _ _ (69, [(0, .ref a), (1, .int x1)], [], M) _
    refine ml_blk 2 (S' := (71, [(0, .ref a), (1, .int x1)], [.int x1, .ref a], M)) rfl ?_
    refine ml_call (a := [.ref a, .int x1]) (rest := []) rfl (okc_t rfl rfl rfl hS.1 hY0 (by decide)) rfl rfl (tw_Co_isMethodOfEither hS.1 hY0 hY1 hY2 hY3 (by omega)) (fun v10 M11 h12 => ?_)
    obtain ⟨⟨u13, rfl, z14⟩, h12⟩ := h12
    rw [h12]
    show ml _ _ _ (74, [(0, .ref a), (1, .int x1)], [.int u13], M) _
    exact ml_ret rfl (r_z (z14)) (⟨⟨_, rfl, z14⟩, rfl⟩)
  · show ml _ _ _ (75, [(0, .ref a), (1, .int x1)], [], M) _
    refine ml_blk 2 (S' := (77, [(0, .ref a), (1, .int x1)], [.int x1, .ref a], M)) rfl ?_
    refine ml_call (a := [.ref a, .int x1]) (rest := []) rfl (okc_t rfl rfl rfl hS.1 hY0 (by decide)) rfl rfl (tw_Co_isMethodOfEither hS.1 hY0 hY1 hY2 hY3 (by omega)) (fun v15 M16 h17 => ?_)
    obtain ⟨⟨u18, rfl, z19⟩, h17⟩ := h17
    rw [h17]
    show ml _ _ _ (80, [(0, .ref a), (1, .int x1)], [.int u18], M) _
    refine ml_if (S1 := (104, [], [], M)) (S2 := (83, [(0, .ref a), (1, .int x1)], [], M)) rfl rfl rfl (fun c_80 => ?_) (fun c_80 => ?_)
    · have c_80 : u18 = 0 := of_decide_eq_true c_80
      refine ml_st (S' := (105, [], [.int 0], M)) rfl rfl rfl ?_
      exact ml_ret rfl (r_z (Or.inl rfl)) (⟨⟨_, rfl, Or.inl rfl⟩, rfl⟩)
    · have c_80 : ¬ (u18 = 0) := of_decide_eq_false c_80
      refine ml_st (S' := (84, [(0, .ref a), (1, .int x1)], [.ref a], M)) rfl rfl rfl ?_
      refine tg_ref (S' := (87, [(0, .ref a), (1, .int x1)], [.ref p], M)) rfl hS.1 hY0 (by decide) rfl rfl ?_
      refine ml_st (S' := (88, [(0, .ref a), (1, .int x1)], [.ref a, .ref p], M)) rfl rfl rfl ?_
      refine tg_ref (S' := (91, [(0, .ref a), (1, .int x1)], [.ref o, .ref p], M)) rfl hS.1 hY0 (by decide) rfl rfl ?_
      refine tg_int rfl hS.1 hY2 (by decide) rfl (fun u20 g21 => ?_)
      show ml _ _ _ (94, [(0, .ref a), (1, .int x1)], [.int u20, .ref p], M) _
      refine ml_call (a := [.ref p, .int u20]) (rest := []) rfl (okc_t rfl rfl rfl hS.1 hY1 (by decide)) rfl rfl (tw_Po_namesInit hS.1 hY1 (by omega)) (fun v22 M23 h24 => ?_)
      obtain ⟨⟨u25, rfl, z26⟩, h24⟩ := h24
      rw [h24]
      show ml _ _ _ (97, [(0, .ref a), (1, .int x1)], [.int u25], M) _
      refine ml_if (S1 := (104, [], [], M)) (S2 := (100, [(0, .ref a), (1, .int x1)], [], M)) rfl rfl rfl (fun c_97 => ?_) (fun c_97 => ?_)
      · have c_97 : ¬ u25 = 0 := of_decide_eq_true c_97
        refine ml_st (S' := (105, [], [.int 0], M)) rfl rfl rfl ?_
        exact ml_ret rfl (r_z (Or.inl rfl)) (⟨⟨_, rfl, Or.inl rfl⟩, rfl⟩)
      · have c_97 : ¬ (¬ u25 = 0) := of_decide_eq_false c_97
        refine ml_st (S' := (101, [(0, .ref a), (1, .int x1)], [.int 1], M)) rfl rfl rfl ?_
        refine ml_st (S' := (105, [], [.int 1], M)) rfl rfl rfl ?_
        exact ml_ret rfl (r_z (Or.inr rfl)) (⟨⟨_, rfl, Or.inr rfl⟩, rfl⟩)
  · show ml _ _ _ (106, [(0, .ref a), (1, .int x1)], [], M) _
    refine ml_blk 2 (S' := (109, [(0, .ref a), (1, .int x1)], [.int 11, .int x1], M)) rfl ?_
    refine ml_if2 (S1 := (149, [], [], M)) (S2 := (112, [(0, .ref a), (1, .int x1)], [], M)) rfl rfl rfl (fun c_109 => ?_) (fun c_109 => ?_)
    · have c_109 : ¬ x1 = 11 := of_decide_eq_true c_109
      refine ml_st (S' := (150, [], [.int 0], M)) rfl rfl rfl ?_
      exact ml_ret rfl (r_z (Or.inl rfl)) (⟨⟨_, rfl, Or.inl rfl⟩, rfl⟩)
    · have c_109 : ¬ (¬ x1 = 11) := of_decide_eq_false c_109
      refine ml_st (S' := (113, [(0, .ref a), (1, .int x1)], [.ref a], M)) rfl rfl rfl ?_
      refine tg_ref (S' := (116, [(0, .ref a), (1, .int x1)], [.ref o], M)) rfl hS.1 hY0 (by decide) rfl rfl ?_
      refine tg_int rfl hS.1 hY2 (by decide) rfl (fun u27 g28 => ?_)
      show ml _ _ _ (119, [(0, .ref a), (1, .int x1)], [.int u27], M) _
      refine ml_st (S' := (120, [(0, .ref a), (1, .int x1)], [.ref a, .int u27], M)) rfl rfl rfl ?_
      refine tg_ref (S' := (123, [(0, .ref a), (1, .int x1)], [.ref p, .int u27], M)) rfl hS.1 hY0 (by decide) rfl rfl ?_
      refine ml_st (S' := (124, [(0, .ref a), (1, .int x1)], [.ref a, .ref p, .int u27], M)) rfl rfl rfl ?_
      refine tg_ref (S' := (127, [(0, .ref a), (1, .int x1)], [.ref p, .ref p, .int u27], M)) rfl hS.1 hY0 (by decide) rfl rfl ?_
      refine ml_st (S' := (128, [(0, .ref a), (1, .int x1)], [.ref a, .ref p, .ref p, .int u27], M)) rfl rfl rfl ?_
      refine tg_ref (S' := (131, [(0, .ref a), (1, .int x1)], [.ref o, .ref p, .ref p, .int u27], M)) rfl hS.1 hY0 (by decide) rfl rfl ?_
      refine tg_int rfl hS.1 hY2 (by decide) rfl (fun u29 g30 => ?_)
      show ml _ _ _ (134, [(0, .ref a), (1, .int x1)], [.int u29, .ref p, .ref p, .int u27], M) _
      refine ml_call (a := [.ref p, .int u29]) (rest := [.ref p, .int u27]) rfl (okc_t rfl rfl rfl hS.1 hY1 (by decide)) rfl rfl (tq_descriptorOf hS.1 hY1 (by omega)) (fun v31 M32 h33 => ?_)
      obtain ⟨⟨u34, rfl⟩, h33⟩ := h33
      rw [h33]
      show ml _ _ _ (137, [(0, .ref a), (1, .int x1)], [.int u34, .ref p, .int u27], M) _
      refine ml_call (a := [.ref p, .int u34]) (rest := [.int u27]) rfl (okc_t rfl rfl rfl hS.1 hY1 (by decide)) rfl rfl (tq_argumentPlaces hS.1 hY1 (by omega)) (fun v35 M36 h37 => ?_)
      obtain ⟨⟨u38, rfl⟩, h37⟩ := h37
      rw [h37]
      show ml _ _ _ (140, [(0, .ref a), (1, .int x1)], [.int u38, .int u27], M) _
      refine ml_blk 2 (S' := (142, [(0, .ref a), (1, .int x1)], [.int (u38 + 1), .int u27], M)) rfl ?_
      refine ml_if2 (S1 := (149, [], [], M)) (S2 := (145, [(0, .ref a), (1, .int x1)], [], M)) rfl rfl rfl (fun c_142 => ?_) (fun c_142 => ?_)
      · have c_142 : ¬ u27 = (u38 + 1) := of_decide_eq_true c_142
        refine ml_st (S' := (150, [], [.int 0], M)) rfl rfl rfl ?_
        exact ml_ret rfl (r_z (Or.inl rfl)) (⟨⟨_, rfl, Or.inl rfl⟩, rfl⟩)
      · have c_142 : ¬ (¬ u27 = (u38 + 1)) := of_decide_eq_false c_142
        refine ml_st (S' := (146, [(0, .ref a), (1, .int x1)], [.int 1], M)) rfl rfl rfl ?_
        refine ml_st (S' := (150, [], [.int 1], M)) rfl rfl rfl ?_
        exact ml_ret rfl (r_z (Or.inr rfl)) (⟨⟨_, rfl, Or.inr rfl⟩, rfl⟩)
  · show ml _ _ _ (151, [(0, .ref a), (1, .int x1)], [], M) _
    refine ml_blk 2 (S' := (154, [(0, .ref a), (1, .int x1)], [.int 18, .int x1], M)) rfl ?_
    refine ml_if2 (S1 := (161, [(0, .ref a), (1, .int x1)], [], M)) (S2 := (157, [(0, .ref a), (1, .int x1)], [], M)) rfl rfl rfl (fun c_154 => ?_) (fun c_154 => ?_)
    · have c_154 : ¬ x1 = 18 := of_decide_eq_true c_154
      refine ml_st (S' := (162, [], [.int 0], M)) rfl rfl rfl ?_
      exact ml_ret rfl (r_z (Or.inl rfl)) (⟨⟨_, rfl, Or.inl rfl⟩, rfl⟩)
    · have c_154 : ¬ (¬ x1 = 18) := of_decide_eq_false c_154
      refine ml_st (S' := (158, [(0, .ref a), (1, .int x1)], [.int 1], M)) rfl rfl rfl ?_
      refine ml_st (S' := (162, [], [.int 1], M)) rfl rfl rfl ?_
      exact ml_ret rfl (r_z (Or.inr rfl)) (⟨⟨_, rfl, Or.inr rfl⟩, rfl⟩)
  · show ml _ _ _ (163, [(0, .ref a), (1, .int x1)], [], M) _
    refine ml_st (S' := (164, [(0, .ref a), (1, .int x1)], [.int 1], M)) rfl rfl rfl ?_
    exact ml_ret rfl (r_z (Or.inr rfl)) (⟨⟨_, rfl, Or.inr rfl⟩, rfl⟩)
set_option maxHeartbeats 2000000 in
theorem tw_Co_operandsHold {g : xe_G} {M : mi_H} {Y : yT} {a p o k b da n : Nat} {pp : List Nat}  (hW : WF g Y M) (hY0 : Y.1 a = some (4, [p, o, k])) (hY1 : Y.1 p = some (7, pp)) (hY2 : Y.1 o = some (5, [b, k])) (hY3 : Y.1 b = some (1, [da, n])) {d : Nat} (hd : 5 ≤ d) : mt (mT g) d 82 [.ref a] M (pZ M) := by
  obtain ⟨d, rfl⟩ : ∃ e, d = e + 1 := ⟨d - 1, by omega⟩
  have hS : st g Y M M := st.rf hW
  refine mt_in (b := mb_82 g) rfl rfl ?_
  show ml (mT g) d (mb_82 g).2 (0, [(0, .ref a)], [], M) _
  refine ml_st (S' := (1, [(0, .ref a)], [.ref a], M)) rfl rfl rfl ?_
  refine tg_ref (S' := (4, [(0, .ref a)], [.ref o], M)) rfl hS.1 hY0 (by decide) rfl rfl ?_
  refine tg_int rfl hS.1 hY2 (by decide) rfl (fun u1 g2 => ?_)
  show ml _ _ _ (7, [(0, .ref a)], [.int u1], M) _
  refine ml_if (S1 := (70, [(0, .ref a)], [], M)) (S2 := (10, [(0, .ref a)], [], M)) rfl rfl rfl (fun c_7 => ?_) (fun c_7 => ?_)
  · have c_7 : u1 ≤ 0 := of_decide_eq_true c_7
    refine ml_st (S' := (71, [(0, .ref a)], [.ref a], M)) rfl rfl rfl ?_
    refine tg_ref (S' := (74, [(0, .ref a)], [.ref o], M)) rfl hS.1 hY0 (by decide) rfl rfl ?_
    refine tg_int rfl hS.1 hY2 (by decide) rfl (fun u3 g4 => ?_)
    show ml _ _ _ (77, [(0, .ref a)], [.int u3], M) _
    refine ml_sw rfl (fun t_77 ht_77 => ?_)
    have kt_77 := ht_77
    have ht_77 : t_77 ∈ [192, 207, 236, 255, 274, 299, 314, 359, 384, 444] := mi_sw_sub ht_77 (by decide)
    simp only [List.mem_cons, List.not_mem_nil, or_false] at ht_77
    rcases ht_77 with rfl | rfl | rfl | rfl | rfl | rfl | rfl | rfl | rfl | rfl
    · show ml _ _ _ (192, [(0, .ref a)], [], M) _
      refine ml_st (S' := (193, [(0, .ref a)], [.ref a], M)) rfl rfl rfl ?_
      refine tg_int rfl hS.1 hY0 (by decide) rfl (fun u5 g6 => ?_)
      show ml _ _ _ (196, [(0, .ref a)], [.int u5], M) _
      refine ml_st (S' := (198, [(0, .ref a)], [.int 51, .int u5], M)) rfl rfl rfl ?_
      refine ml_if2 (S1 := (205, [(0, .ref a)], [], M)) (S2 := (201, [(0, .ref a)], [], M)) rfl rfl rfl (fun c_198 => ?_) (fun c_198 => ?_)
      · have c_198 : 51 ≤ u5 := of_decide_eq_true c_198
        refine ml_st (S' := (206, [], [.int 0], M)) rfl rfl rfl ?_
        exact ml_ret rfl (r_z (Or.inl rfl)) (⟨⟨_, rfl, Or.inl rfl⟩, rfl⟩)
      · have c_198 : ¬ (51 ≤ u5) := of_decide_eq_false c_198
        refine ml_st (S' := (202, [(0, .ref a)], [.int 1], M)) rfl rfl rfl ?_
        refine ml_st (S' := (206, [], [.int 1], M)) rfl rfl rfl ?_
        exact ml_ret rfl (r_z (Or.inr rfl)) (⟨⟨_, rfl, Or.inr rfl⟩, rfl⟩)
    · show ml _ _ _ (207, [(0, .ref a)], [], M) _
      refine ml_st (S' := (208, [(0, .ref a)], [.ref a], M)) rfl rfl rfl ?_
      refine tg_ref (S' := (211, [(0, .ref a)], [.ref o], M)) rfl hS.1 hY0 (by decide) rfl rfl ?_
      refine tg_int rfl hS.1 hY2 (by decide) rfl (fun u7 g8 => ?_)
      show ml _ _ _ (214, [(0, .ref a)], [.int u7], M) _
      refine ml_st (S' := (215, [(0, .ref a)], [.int 4, .int u7], M)) rfl rfl rfl ?_
      refine ml_if2 (S1 := (234, [], [], M)) (S2 := (218, [(0, .ref a)], [], M)) rfl rfl rfl (fun c_215 => ?_) (fun c_215 => ?_)
      · have c_215 : u7 < 4 := of_decide_eq_true c_215
        refine ml_st (S' := (235, [], [.int 0], M)) rfl rfl rfl ?_
        exact ml_ret rfl (r_z (Or.inl rfl)) (⟨⟨_, rfl, Or.inl rfl⟩, rfl⟩)
      · have c_215 : ¬ (u7 < 4) := of_decide_eq_false c_215
        refine ml_st (S' := (219, [(0, .ref a)], [.ref a], M)) rfl rfl rfl ?_
        refine tg_ref (S' := (222, [(0, .ref a)], [.ref o], M)) rfl hS.1 hY0 (by decide) rfl rfl ?_
        refine ml_get (S' := (225, [(0, .ref a)], [.int u7], M)) rfl g8 rfl ?_
        refine ml_st (S' := (227, [(0, .ref a)], [.int 11, .int u7], M)) rfl rfl rfl ?_
        refine ml_if2 (S1 := (234, [], [], M)) (S2 := (230, [(0, .ref a)], [], M)) rfl rfl rfl (fun c_227 => ?_) (fun c_227 => ?_)
        · have c_227 : 11 < u7 := of_decide_eq_true c_227
          refine ml_st (S' := (235, [], [.int 0], M)) rfl rfl rfl ?_
          exact ml_ret rfl (r_z (Or.inl rfl)) (⟨⟨_, rfl, Or.inl rfl⟩, rfl⟩)
        · have c_227 : ¬ (11 < u7) := of_decide_eq_false c_227
          refine ml_st (S' := (231, [(0, .ref a)], [.int 1], M)) rfl rfl rfl ?_
          refine ml_st (S' := (235, [], [.int 1], M)) rfl rfl rfl ?_
          exact ml_ret rfl (r_z (Or.inr rfl)) (⟨⟨_, rfl, Or.inr rfl⟩, rfl⟩)
    · show ml _ _ _ (236, [(0, .ref a)], [], M) _
      refine ml_blk 2 (S' := (238, [(0, .ref a)], [.ref a, .ref a], M)) rfl ?_
      refine tg_ref (S' := (241, [(0, .ref a)], [.ref p, .ref a], M)) rfl hS.1 hY0 (by decide) rfl rfl ?_
      refine ml_st (S' := (242, [(0, .ref a)], [.ref a, .ref p, .ref a], M)) rfl rfl rfl ?_
      refine tg_ref (S' := (245, [(0, .ref a)], [.ref o, .ref p, .ref a], M)) rfl hS.1 hY0 (by decide) rfl rfl ?_
      refine tg_int rfl hS.1 hY2 (by decide) rfl (fun u9 g10 => ?_)
      show ml _ _ _ (248, [(0, .ref a)], [.int u9, .ref p, .ref a], M) _
      refine ml_call (a := [.ref p, .int u9]) (rest := [.ref a]) rfl (okc_t rfl rfl rfl hS.1 hY1 (by decide)) rfl rfl (tq_tagOf hS.1 hY1 (by omega)) (fun v11 M12 h13 => ?_)
      obtain ⟨⟨u14, rfl⟩, h13⟩ := h13
      rw [h13]
      show ml _ _ _ (251, [(0, .ref a)], [.int u14, .ref a], M) _
      refine ml_call (a := [.ref a, .int u14]) (rest := []) rfl (okc_t rfl rfl rfl hS.1 hY0 (by decide)) rfl rfl (tw_Co_isLoadedByLdc hS.1 hY0 hY1 hY2 hY3 (by omega)) (fun v15 M16 h17 => ?_)
      obtain ⟨⟨u18, rfl, z19⟩, h17⟩ := h17
      rw [h17]
      show ml _ _ _ (254, [(0, .ref a)], [.int u18], M) _
      exact ml_ret rfl (r_z (z19)) (⟨⟨_, rfl, z19⟩, rfl⟩)
    · show ml _ _ _ (255, [(0, .ref a)], [], M) _
      refine ml_blk 2 (S' := (257, [(0, .ref a)], [.ref a, .ref a], M)) rfl ?_
      refine tg_ref (S' := (260, [(0, .ref a)], [.ref p, .ref a], M)) rfl hS.1 hY0 (by decide) rfl rfl ?_
      refine ml_st (S' := (261, [(0, .ref a)], [.ref a, .ref p, .ref a], M)) rfl rfl rfl ?_
      refine tg_ref (S' := (264, [(0, .ref a)], [.ref o, .ref p, .ref a], M)) rfl hS.1 hY0 (by decide) rfl rfl ?_
      refine tg_int rfl hS.1 hY2 (by decide) rfl (fun u20 g21 => ?_)
      show ml _ _ _ (267, [(0, .ref a)], [.int u20, .ref p, .ref a], M) _
      refine ml_call (a := [.ref p, .int u20]) (rest := [.ref a]) rfl (okc_t rfl rfl rfl hS.1 hY1 (by decide)) rfl rfl (tq_tagOf hS.1 hY1 (by omega)) (fun v22 M23 h24 => ?_)
      obtain ⟨⟨u25, rfl⟩, h24⟩ := h24
      rw [h24]
      show ml _ _ _ (270, [(0, .ref a)], [.int u25, .ref a], M) _
      refine ml_call (a := [.ref a, .int u25]) (rest := []) rfl (okc_t rfl rfl rfl hS.1 hY0 (by decide)) rfl rfl (tw_Co_isOfTwoPlaces hS.1 hY0 hY1 hY2 hY3 (by omega)) (fun v26 M27 h28 => ?_)
      obtain ⟨⟨u29, rfl, z30⟩, h28⟩ := h28
      rw [h28]
      show ml _ _ _ (273, [(0, .ref a)], [.int u29], M) _
      exact ml_ret rfl (r_z (z30)) (⟨⟨_, rfl, z30⟩, rfl⟩)
    · show ml _ _ _ (274, [(0, .ref a)], [], M) _
      refine ml_st (S' := (275, [(0, .ref a)], [.ref a], M)) rfl rfl rfl ?_
      refine tg_ref (S' := (278, [(0, .ref a)], [.ref p], M)) rfl hS.1 hY0 (by decide) rfl rfl ?_
      refine ml_st (S' := (279, [(0, .ref a)], [.ref a, .ref p], M)) rfl rfl rfl ?_
      refine tg_ref (S' := (282, [(0, .ref a)], [.ref o, .ref p], M)) rfl hS.1 hY0 (by decide) rfl rfl ?_
      refine tg_int rfl hS.1 hY2 (by decide) rfl (fun u31 g32 => ?_)
      show ml _ _ _ (285, [(0, .ref a)], [.int u31, .ref p], M) _
      refine ml_call (a := [.ref p, .int u31]) (rest := []) rfl (okc_t rfl rfl rfl hS.1 hY1 (by decide)) rfl rfl (tq_tagOf hS.1 hY1 (by omega)) (fun v33 M34 h35 => ?_)
      obtain ⟨⟨u36, rfl⟩, h35⟩ := h35
      rw [h35]
      show ml _ _ _ (288, [(0, .ref a)], [.int u36], M) _
      refine ml_st (S' := (290, [(0, .ref a)], [.int 9, .int u36], M)) rfl rfl rfl ?_
      refine ml_if2 (S1 := (297, [(0, .ref a)], [], M)) (S2 := (293, [(0, .ref a)], [], M)) rfl rfl rfl (fun c_290 => ?_) (fun c_290 => ?_)
      · have c_290 : ¬ u36 = 9 := of_decide_eq_true c_290
        refine ml_st (S' := (298, [], [.int 0], M)) rfl rfl rfl ?_
        exact ml_ret rfl (r_z (Or.inl rfl)) (⟨⟨_, rfl, Or.inl rfl⟩, rfl⟩)
      · have c_290 : ¬ (¬ u36 = 9) := of_decide_eq_false c_290
        refine ml_st (S' := (294, [(0, .ref a)], [.int 1], M)) rfl rfl rfl ?_
        refine ml_st (S' := (298, [], [.int 1], M)) rfl rfl rfl ?_
        exact ml_ret rfl (r_z (Or.inr rfl)) (⟨⟨_, rfl, Or.inr rfl⟩, rfl⟩)
    · show ml _ _ _ (299, [(0, .ref a)], [], M) _
      refine ml_st (S' := (300, [(0, .ref a)], [.ref a], M)) rfl rfl rfl ?_
      refine tg_ref (S' := (303, [(0, .ref a)], [.ref p], M)) rfl hS.1 hY0 (by decide) rfl rfl ?_
      refine ml_st (S' := (304, [(0, .ref a)], [.ref a, .ref p], M)) rfl rfl rfl ?_
      refine tg_ref (S' := (307, [(0, .ref a)], [.ref o, .ref p], M)) rfl hS.1 hY0 (by decide) rfl rfl ?_
      refine tg_int rfl hS.1 hY2 (by decide) rfl (fun u37 g38 => ?_)
      show ml _ _ _ (310, [(0, .ref a)], [.int u37, .ref p], M) _
      refine ml_call (a := [.ref p, .int u37]) (rest := []) rfl (okc_t rfl rfl rfl hS.1 hY1 (by decide)) rfl rfl (tq_isPlainClass hS.1 hY1 (by omega)) (fun v39 M40 h41 => ?_)
      obtain ⟨⟨u42, rfl, z43⟩, h41⟩ := h41
      rw [h41]
      show ml _ _ _ (313, [(0, .ref a)], [.int u42], M) _
      exact ml_ret rfl (r_z (z43)) (⟨⟨_, rfl, z43⟩, rfl⟩)
    · show ml _ _ _ (314, [(0, .ref a)], [], M) _
      refine ml_st (S' := (315, [(0, .ref a)], [.ref a], M)) rfl rfl rfl ?_
      refine tg_ref (S' := (318, [(0, .ref a)], [.ref p], M)) rfl hS.1 hY0 (by decide) rfl rfl ?_
      refine ml_st (S' := (319, [(0, .ref a)], [.ref a, .ref p], M)) rfl rfl rfl ?_
      refine tg_ref (S' := (322, [(0, .ref a)], [.ref o, .ref p], M)) rfl hS.1 hY0 (by decide) rfl rfl ?_
      refine tg_int rfl hS.1 hY2 (by decide) rfl (fun u44 g45 => ?_)
      show ml _ _ _ (325, [(0, .ref a)], [.int u44, .ref p], M) _
      refine ml_call (a := [.ref p, .int u44]) (rest := []) rfl (okc_t rfl rfl rfl hS.1 hY1 (by decide)) rfl rfl (tq_tagOf hS.1 hY1 (by omega)) (fun v46 M47 h48 => ?_)
      obtain ⟨⟨u49, rfl⟩, h48⟩ := h48
      rw [h48]
      show ml _ _ _ (328, [(0, .ref a)], [.int u49], M) _
      refine ml_st (S' := (330, [(0, .ref a)], [.int 7, .int u49], M)) rfl rfl rfl ?_
      refine ml_if2 (S1 := (357, [], [], M)) (S2 := (333, [(0, .ref a)], [], M)) rfl rfl rfl (fun c_330 => ?_) (fun c_330 => ?_)
      · have c_330 : ¬ u49 = 7 := of_decide_eq_true c_330
        refine ml_st (S' := (358, [], [.int 0], M)) rfl rfl rfl ?_
        exact ml_ret rfl (r_z (Or.inl rfl)) (⟨⟨_, rfl, Or.inl rfl⟩, rfl⟩)
      · have c_330 : ¬ (¬ u49 = 7) := of_decide_eq_false c_330
        refine ml_st (S' := (334, [(0, .ref a)], [.ref a], M)) rfl rfl rfl ?_
        refine tg_ref (S' := (337, [(0, .ref a)], [.ref p], M)) rfl hS.1 hY0 (by decide) rfl rfl ?_
        refine ml_st (S' := (338, [(0, .ref a)], [.ref a, .ref p], M)) rfl rfl rfl ?_
        refine tg_ref (S' := (341, [(0, .ref a)], [.ref o, .ref p], M)) rfl hS.1 hY0 (by decide) rfl rfl ?_
        refine ml_get (S' := (344, [(0, .ref a)], [.int u44, .ref p], M)) rfl g45 rfl ?_
        refine ml_call (a := [.ref p, .int u44]) (rest := []) rfl (okc_t rfl rfl rfl hS.1 hY1 (by decide)) rfl rfl (tq_dimensionsOf hS.1 hY1 (by omega)) (fun v50 M51 h52 => ?_)
        obtain ⟨⟨u53, rfl⟩, h52⟩ := h52
        rw [h52]
        show ml _ _ _ (347, [(0, .ref a)], [.int u53], M) _
        refine ml_st (S' := (350, [(0, .ref a)], [.int 255, .int u53], M)) rfl rfl rfl ?_
        refine ml_if2 (S1 := (357, [], [], M)) (S2 := (353, [(0, .ref a)], [], M)) rfl rfl rfl (fun c_350 => ?_) (fun c_350 => ?_)
        · have c_350 : 255 ≤ u53 := of_decide_eq_true c_350
          refine ml_st (S' := (358, [], [.int 0], M)) rfl rfl rfl ?_
          exact ml_ret rfl (r_z (Or.inl rfl)) (⟨⟨_, rfl, Or.inl rfl⟩, rfl⟩)
        · have c_350 : ¬ (255 ≤ u53) := of_decide_eq_false c_350
          refine ml_st (S' := (354, [(0, .ref a)], [.int 1], M)) rfl rfl rfl ?_
          refine ml_st (S' := (358, [], [.int 1], M)) rfl rfl rfl ?_
          exact ml_ret rfl (r_z (Or.inr rfl)) (⟨⟨_, rfl, Or.inr rfl⟩, rfl⟩)
    · show ml _ _ _ (359, [(0, .ref a)], [], M) _
      refine ml_st (S' := (360, [(0, .ref a)], [.ref a], M)) rfl rfl rfl ?_
      refine tg_ref (S' := (363, [(0, .ref a)], [.ref p], M)) rfl hS.1 hY0 (by decide) rfl rfl ?_
      refine ml_st (S' := (364, [(0, .ref a)], [.ref a, .ref p], M)) rfl rfl rfl ?_
      refine tg_ref (S' := (367, [(0, .ref a)], [.ref o, .ref p], M)) rfl hS.1 hY0 (by decide) rfl rfl ?_
      refine tg_int rfl hS.1 hY2 (by decide) rfl (fun u54 g55 => ?_)
      show ml _ _ _ (370, [(0, .ref a)], [.int u54, .ref p], M) _
      refine ml_call (a := [.ref p, .int u54]) (rest := []) rfl (okc_t rfl rfl rfl hS.1 hY1 (by decide)) rfl rfl (tq_tagOf hS.1 hY1 (by omega)) (fun v56 M57 h58 => ?_)
      obtain ⟨⟨u59, rfl⟩, h58⟩ := h58
      rw [h58]
      show ml _ _ _ (373, [(0, .ref a)], [.int u59], M) _
      refine ml_st (S' := (375, [(0, .ref a)], [.int 7, .int u59], M)) rfl rfl rfl ?_
      refine ml_if2 (S1 := (382, [(0, .ref a)], [], M)) (S2 := (378, [(0, .ref a)], [], M)) rfl rfl rfl (fun c_375 => ?_) (fun c_375 => ?_)
      · have c_375 : ¬ u59 = 7 := of_decide_eq_true c_375
        refine ml_st (S' := (383, [], [.int 0], M)) rfl rfl rfl ?_
        exact ml_ret rfl (r_z (Or.inl rfl)) (⟨⟨_, rfl, Or.inl rfl⟩, rfl⟩)
      · have c_375 : ¬ (¬ u59 = 7) := of_decide_eq_false c_375
        refine ml_st (S' := (379, [(0, .ref a)], [.int 1], M)) rfl rfl rfl ?_
        refine ml_st (S' := (383, [], [.int 1], M)) rfl rfl rfl ?_
        exact ml_ret rfl (r_z (Or.inr rfl)) (⟨⟨_, rfl, Or.inr rfl⟩, rfl⟩)
    · show ml _ _ _ (384, [(0, .ref a)], [], M) _
      refine ml_st (S' := (385, [(0, .ref a)], [.ref a], M)) rfl rfl rfl ?_
      refine tg_ref (S' := (388, [(0, .ref a)], [.ref p], M)) rfl hS.1 hY0 (by decide) rfl rfl ?_
      refine ml_st (S' := (389, [(0, .ref a)], [.ref a, .ref p], M)) rfl rfl rfl ?_
      refine tg_ref (S' := (392, [(0, .ref a)], [.ref o, .ref p], M)) rfl hS.1 hY0 (by decide) rfl rfl ?_
      refine tg_int rfl hS.1 hY2 (by decide) rfl (fun u60 g61 => ?_)
      show ml _ _ _ (395, [(0, .ref a)], [.int u60, .ref p], M) _
      refine ml_call (a := [.ref p, .int u60]) (rest := []) rfl (okc_t rfl rfl rfl hS.1 hY1 (by decide)) rfl rfl (tq_tagOf hS.1 hY1 (by omega)) (fun v62 M63 h64 => ?_)
      obtain ⟨⟨u65, rfl⟩, h64⟩ := h64
      rw [h64]
      show ml _ _ _ (398, [(0, .ref a)], [.int u65], M) _
      refine ml_st (S' := (400, [(0, .ref a)], [.int 7, .int u65], M)) rfl rfl rfl ?_
      refine ml_if2 (S1 := (442, [], [], M)) (S2 := (403, [(0, .ref a)], [], M)) rfl rfl rfl (fun c_400 => ?_) (fun c_400 => ?_)
      · have c_400 : ¬ u65 = 7 := of_decide_eq_true c_400
        refine ml_st (S' := (443, [], [.int 0], M)) rfl rfl rfl ?_
        exact ml_ret rfl (r_z (Or.inl rfl)) (⟨⟨_, rfl, Or.inl rfl⟩, rfl⟩)
      · have c_400 : ¬ (¬ u65 = 7) := of_decide_eq_false c_400
        refine ml_st (S' := (404, [(0, .ref a)], [.ref a], M)) rfl rfl rfl ?_
        refine tg_ref (S' := (407, [(0, .ref a)], [.ref o], M)) rfl hS.1 hY0 (by decide) rfl rfl ?_
        refine tg_int rfl hS.1 hY2 (by decide) rfl (fun u66 g67 => ?_)
        show ml _ _ _ (410, [(0, .ref a)], [.int u66], M) _
        refine ml_st (S' := (411, [(0, .ref a)], [.int 1, .int u66], M)) rfl rfl rfl ?_
        refine ml_if2 (S1 := (442, [], [], M)) (S2 := (414, [(0, .ref a)], [], M)) rfl rfl rfl (fun c_411 => ?_) (fun c_411 => ?_)
        · have c_411 : u66 < 1 := of_decide_eq_true c_411
          refine ml_st (S' := (443, [], [.int 0], M)) rfl rfl rfl ?_
          exact ml_ret rfl (r_z (Or.inl rfl)) (⟨⟨_, rfl, Or.inl rfl⟩, rfl⟩)
        · have c_411 : ¬ (u66 < 1) := of_decide_eq_false c_411
          refine ml_st (S' := (415, [(0, .ref a)], [.ref a], M)) rfl rfl rfl ?_
          refine tg_ref (S' := (418, [(0, .ref a)], [.ref o], M)) rfl hS.1 hY0 (by decide) rfl rfl ?_
          refine ml_get (S' := (421, [(0, .ref a)], [.int u66], M)) rfl g67 rfl ?_
          refine ml_st (S' := (422, [(0, .ref a)], [.ref a, .int u66], M)) rfl rfl rfl ?_
          refine tg_ref (S' := (425, [(0, .ref a)], [.ref p, .int u66], M)) rfl hS.1 hY0 (by decide) rfl rfl ?_
          refine ml_st (S' := (426, [(0, .ref a)], [.ref a, .ref p, .int u66], M)) rfl rfl rfl ?_
          refine tg_ref (S' := (429, [(0, .ref a)], [.ref o, .ref p, .int u66], M)) rfl hS.1 hY0 (by decide) rfl rfl ?_
          refine ml_get (S' := (432, [(0, .ref a)], [.int u60, .ref p, .int u66], M)) rfl g61 rfl ?_
          refine ml_call (a := [.ref p, .int u60]) (rest := [.int u66]) rfl (okc_t rfl rfl rfl hS.1 hY1 (by decide)) rfl rfl (tq_dimensionsOf hS.1 hY1 (by omega)) (fun v68 M69 h70 => ?_)
          obtain ⟨⟨u71, rfl⟩, h70⟩ := h70
          rw [h70]
          show ml _ _ _ (435, [(0, .ref a)], [.int u71, .int u66], M) _
          refine ml_if2 (S1 := (442, [], [], M)) (S2 := (438, [(0, .ref a)], [], M)) rfl rfl rfl (fun c_435 => ?_) (fun c_435 => ?_)
          · have c_435 : u71 < u66 := of_decide_eq_true c_435
            refine ml_st (S' := (443, [], [.int 0], M)) rfl rfl rfl ?_
            exact ml_ret rfl (r_z (Or.inl rfl)) (⟨⟨_, rfl, Or.inl rfl⟩, rfl⟩)
          · have c_435 : ¬ (u71 < u66) := of_decide_eq_false c_435
            refine ml_st (S' := (439, [(0, .ref a)], [.int 1], M)) rfl rfl rfl ?_
            refine ml_st (S' := (443, [], [.int 1], M)) rfl rfl rfl ?_
            exact ml_ret rfl (r_z (Or.inr rfl)) (⟨⟨_, rfl, Or.inr rfl⟩, rfl⟩)
    · show ml _ _ _ (444, [(0, .ref a)], [], M) _
      refine ml_blk 2 (S' := (446, [(0, .ref a)], [.ref a, .ref a], M)) rfl ?_
      refine tg_ref (S' := (449, [(0, .ref a)], [.ref p, .ref a], M)) rfl hS.1 hY0 (by decide) rfl rfl ?_
      refine ml_st (S' := (450, [(0, .ref a)], [.ref a, .ref p, .ref a], M)) rfl rfl rfl ?_
      refine tg_ref (S' := (453, [(0, .ref a)], [.ref o, .ref p, .ref a], M)) rfl hS.1 hY0 (by decide) rfl rfl ?_
      refine tg_int rfl hS.1 hY2 (by decide) rfl (fun u72 g73 => ?_)
      show ml _ _ _ (456, [(0, .ref a)], [.int u72, .ref p, .ref a], M) _
      refine ml_call (a := [.ref p, .int u72]) (rest := [.ref a]) rfl (okc_t rfl rfl rfl hS.1 hY1 (by decide)) rfl rfl (tq_tagOf hS.1 hY1 (by omega)) (fun v74 M75 h76 => ?_)
      obtain ⟨⟨u77, rfl⟩, h76⟩ := h76
      rw [h76]
      show ml _ _ _ (459, [(0, .ref a)], [.int u77, .ref a], M) _
      refine ml_call (a := [.ref a, .int u77]) (rest := []) rfl (okc_t rfl rfl rfl hS.1 hY0 (by decide)) rfl rfl (tw_Co_callHolds hS.1 hY0 hY1 hY2 hY3 (by omega)) (fun v78 M79 h80 => ?_)
      obtain ⟨⟨u81, rfl, z82⟩, h80⟩ := h80
      rw [h80]
      show ml _ _ _ (462, [(0, .ref a)], [.int u81], M) _
      exact ml_ret rfl (r_z (z82)) (⟨⟨_, rfl, z82⟩, rfl⟩)
  · have c_7 : ¬ (u1 ≤ 0) := of_decide_eq_false c_7
    refine ml_st (S' := (11, [(0, .ref a)], [.ref a], M)) rfl rfl rfl ?_
    refine tg_ref (S' := (14, [(0, .ref a)], [.ref o], M)) rfl hS.1 hY0 (by decide) rfl rfl ?_
    refine tg_int rfl hS.1 hY2 (by decide) rfl (fun u83 g84 => ?_)
    show ml _ _ _ (17, [(0, .ref a)], [.int u83], M) _
    refine ml_st (S' := (20, [(0, .ref a)], [.int 169, .int u83], M)) rfl rfl rfl ?_
    have J_37 : ∀ (s37_0 : Int32), ml (mT g) d (mb_82 g).2 (37, [(0, .ref a)], [.int s37_0], M) (pZ M) := by
      intro s37_0
      refine ml_st (S' := (38, [(1, .int s37_0), (0, .ref a)], [], M)) rfl rfl rfl ?_
      refine ml_st (S' := (39, [(1, .int s37_0), (0, .ref a)], [.int s37_0], M)) rfl rfl rfl ?_
      refine ml_if (S1 := (68, [], [], M)) (S2 := (42, [(1, .int s37_0), (0, .ref a)], [], M)) rfl rfl rfl (fun c_39 => ?_) (fun c_39 => ?_)
      · have c_39 : ¬ s37_0 = 0 := of_decide_eq_true c_39
        refine ml_st (S' := (69, [], [.int 0], M)) rfl rfl rfl ?_
        exact ml_ret rfl (r_z (Or.inl rfl)) (⟨⟨_, rfl, Or.inl rfl⟩, rfl⟩)
      · have c_39 : ¬ (¬ s37_0 = 0) := of_decide_eq_false c_39
        refine ml_st (S' := (43, [(1, .int s37_0), (0, .ref a)], [.ref a], M)) rfl rfl rfl ?_
        refine tg_ref (S' := (46, [(1, .int s37_0), (0, .ref a)], [.ref o], M)) rfl hS.1 hY0 (by decide) rfl rfl ?_
        refine tg_int rfl hS.1 hY2 (by decide) rfl (fun u85 g86 => ?_)
        show ml _ _ _ (49, [(1, .int s37_0), (0, .ref a)], [.int u85], M) _
        refine ml_st (S' := (50, [(1, .int s37_0), (0, .ref a)], [.ref a, .int u85], M)) rfl rfl rfl ?_
        refine tg_ref (S' := (53, [(1, .int s37_0), (0, .ref a)], [.ref o, .int u85], M)) rfl hS.1 hY0 (by decide) rfl rfl ?_
        refine ml_get (S' := (56, [(1, .int s37_0), (0, .ref a)], [.int u1, .int u85], M)) rfl g2 rfl ?_
        refine ml_blk 2 (S' := (58, [(1, .int s37_0), (0, .ref a)], [.ref a, .int (u85 + u1)], M)) rfl ?_
        refine tg_int rfl hS.1 hY0 (by decide) rfl (fun u87 g88 => ?_)
        show ml _ _ _ (61, [(1, .int s37_0), (0, .ref a)], [.int u87, .int (u85 + u1)], M) _
        refine ml_if2 (S1 := (68, [], [], M)) (S2 := (64, [(1, .int s37_0), (0, .ref a)], [], M)) rfl rfl rfl (fun c_61 => ?_) (fun c_61 => ?_)
        · have c_61 : u87 < (u85 + u1) := of_decide_eq_true c_61
          refine ml_st (S' := (69, [], [.int 0], M)) rfl rfl rfl ?_
          exact ml_ret rfl (r_z (Or.inl rfl)) (⟨⟨_, rfl, Or.inl rfl⟩, rfl⟩)
        · have c_61 : ¬ (u87 < (u85 + u1)) := of_decide_eq_false c_61
          refine ml_st (S' := (65, [(1, .int s37_0), (0, .ref a)], [.int 1], M)) rfl rfl rfl ?_
          refine ml_st (S' := (69, [], [.int 1], M)) rfl rfl rfl ?_
          exact ml_ret rfl (r_z (Or.inr rfl)) (⟨⟨_, rfl, Or.inr rfl⟩, rfl⟩)
    have J_36 : ml (mT g) d (mb_82 g).2 (36, [(0, .ref a)], [], M) (pZ M) := by
      refine ml_st (S' := (37, [(0, .ref a)], [.int 0], M)) rfl rfl rfl ?_
      exact J_37 0
    refine ml_if2 (S1 := (36, [(0, .ref a)], [], M)) (S2 := (23, [(0, .ref a)], [], M)) rfl rfl rfl (fun c_20 => ?_) (fun c_20 => ?_)
    · have c_20 : ¬ u83 = 169 := of_decide_eq_true c_20
      exact J_36 
    · have c_20 : ¬ (¬ u83 = 169) := of_decide_eq_false c_20
      refine ml_st (S' := (24, [(0, .ref a)], [.ref a], M)) rfl rfl rfl ?_
      refine tg_int rfl hS.1 hY0 (by decide) rfl (fun u89 g90 => ?_)
      show ml _ _ _ (27, [(0, .ref a)], [.int u89], M) _
      refine ml_st (S' := (29, [(0, .ref a)], [.int 51, .int u89], M)) rfl rfl rfl ?_
      refine ml_if2 (S1 := (36, [(0, .ref a)], [], M)) (S2 := (32, [(0, .ref a)], [], M)) rfl rfl rfl (fun c_29 => ?_) (fun c_29 => ?_)
      · have c_29 : u89 < 51 := of_decide_eq_true c_29
        exact J_36 
      · have c_29 : ¬ (u89 < 51) := of_decide_eq_false c_29
        refine ml_st (S' := (33, [(0, .ref a)], [.int 1], M)) rfl rfl rfl ?_
        refine ml_st (S' := (37, [(0, .ref a)], [.int 1], M)) rfl rfl rfl ?_
        exact J_37 1
set_option maxHeartbeats 2000000 in
theorem tw_Co_startOf {g : xe_G} {M : mi_H} {Y : yT} {a p o k b da n : Nat} {pp : List Nat} {x1 : Int32}  (hW : WF g Y M) (hY0 : Y.1 a = some (4, [p, o, k])) (hY1 : Y.1 p = some (7, pp)) (hY2 : Y.1 o = some (5, [b, k])) (hY3 : Y.1 b = some (1, [da, n])) {d : Nat} (hd : 1 ≤ d) : mt (mT g) d 83 [.ref a, .int x1] M (pI M) := by
  obtain ⟨d, rfl⟩ : ∃ e, d = e + 1 := ⟨d - 1, by omega⟩
  have hS : st g Y M M := st.rf hW
  refine mt_in (b := mb_83 g) rfl rfl ?_
  show ml (mT g) d (mb_83 g).2 (0, [(0, .ref a), (1, .int x1)], [], M) _
  refine ml_st (S' := (1, [(0, .ref a), (1, .int x1)], [.ref a], M)) rfl rfl rfl ?_
  refine tg_vn rfl hS.1 hY0 (by decide) rfl (fun g3 => ?_) (fun b1 g3 h2 => ?_)
  · show ml _ _ _ (4, [(0, .ref a), (1, .int x1)], [.null], M) _
    refine ml_st (S' := (20, [], [], M)) rfl rfl rfl ?_
    refine ml_st (S' := (21, [], [.int 0], M)) rfl rfl rfl ?_
    refine ml_st (S' := (30, [], [.int 0], M)) rfl rfl rfl ?_
    exact ml_ret rfl (rfl) (⟨⟨_, rfl⟩, rfl⟩)
  · skip
    obtain ⟨k4, h2⟩ := h2
    show ml _ _ _ (4, [(0, .ref a), (1, .int x1)], [.ref b1], M) _
    refine ml_st (S' := (7, [(0, .ref a), (1, .int x1)], [], M)) rfl rfl rfl ?_
    refine ml_st (S' := (8, [(0, .ref a), (1, .int x1)], [.int x1], M)) rfl rfl rfl ?_
    refine ml_if (S1 := (20, [], [], M)) (S2 := (11, [(0, .ref a), (1, .int x1)], [], M)) rfl rfl rfl (fun c_8 => ?_) (fun c_8 => ?_)
    · have c_8 : x1 < 0 := of_decide_eq_true c_8
      refine ml_st (S' := (21, [], [.int 0], M)) rfl rfl rfl ?_
      refine ml_st (S' := (30, [], [.int 0], M)) rfl rfl rfl ?_
      exact ml_ret rfl (rfl) (⟨⟨_, rfl⟩, rfl⟩)
    · have c_8 : ¬ (x1 < 0) := of_decide_eq_false c_8
      refine ml_blk 2 (S' := (13, [(0, .ref a), (1, .int x1)], [.ref a, .int x1], M)) rfl ?_
      refine ml_get (S' := (16, [(0, .ref a), (1, .int x1)], [.ref b1, .int x1], M)) rfl g3 rfl ?_
      refine tl_row (k := 21) (ty := .int) (S' := (17, [(0, .ref a), (1, .int x1)], [.int (nI k4), .int x1], M)) rfl hS.1 h2 rfl rfl ?_
      refine ml_if2 (S1 := (24, [(0, .ref a), (1, .int x1)], [], M)) (S2 := (20, [], [], M)) rfl rfl rfl (fun c_17 => ?_) (fun c_17 => ?_)
      · have c_17 : x1 < (nI k4) := of_decide_eq_true c_17
        refine ml_st (S' := (25, [(0, .ref a), (1, .int x1)], [.ref a], M)) rfl rfl rfl ?_
        refine ml_get (S' := (28, [(0, .ref a), (1, .int x1)], [.ref b1], M)) rfl g3 rfl ?_
        refine ml_st (S' := (29, [(0, .ref a), (1, .int x1)], [.int x1, .ref b1], M)) rfl rfl rfl ?_
        refine ta_int rfl hS.1 h2 (vin_of c_8 c_17) (fun u5 => ?_)
        show ml _ _ _ (30, [], [.int u5], M) _
        exact ml_ret rfl (rfl) (⟨⟨_, rfl⟩, rfl⟩)
      · have c_17 : ¬ (x1 < (nI k4)) := of_decide_eq_false c_17
        refine ml_st (S' := (21, [], [.int 0], M)) rfl rfl rfl ?_
        refine ml_st (S' := (30, [], [.int 0], M)) rfl rfl rfl ?_
        exact ml_ret rfl (rfl) (⟨⟨_, rfl⟩, rfl⟩)
set_option maxHeartbeats 2000000 in
theorem tw_Co_numberAt {g : xe_G} {M : mi_H} {Y : yT} {a p o k b da n : Nat} {pp : List Nat} {x1 : Int64}  (hW : WF g Y M) (hY0 : Y.1 a = some (4, [p, o, k])) (hY1 : Y.1 p = some (7, pp)) (hY2 : Y.1 o = some (5, [b, k])) (hY3 : Y.1 b = some (1, [da, n])) {d : Nat} (hd : 1 ≤ d) : mt (mT g) d 81 [.ref a, .long x1] M (pI M) := by
  obtain ⟨d, rfl⟩ : ∃ e, d = e + 1 := ⟨d - 1, by omega⟩
  have hS : st g Y M M := st.rf hW
  refine mt_in (b := mb_81 g) rfl rfl ?_
  show ml (mT g) d (mb_81 g).2 (0, [(0, .ref a), (1, .long x1)], [], M) _
  refine ml_st (S' := (1, [(0, .ref a), (1, .long x1)], [.ref a], M)) rfl rfl rfl ?_
  refine tg_vn rfl hS.1 hY0 (by decide) rfl (fun g3 => ?_) (fun b1 g3 h2 => ?_)
  · show ml _ _ _ (4, [(0, .ref a), (1, .long x1)], [.null], M) _
    refine ml_st (S' := (24, [], [], M)) rfl rfl rfl ?_
    refine ml_st (S' := (25, [], [.int (-1)], M)) rfl rfl rfl ?_
    refine ml_st (S' := (37, [], [.int (-1)], M)) rfl rfl rfl ?_
    exact ml_ret rfl (rfl) (⟨⟨_, rfl⟩, rfl⟩)
  · skip
    obtain ⟨k4, h2⟩ := h2
    show ml _ _ _ (4, [(0, .ref a), (1, .long x1)], [.ref b1], M) _
    refine ml_st (S' := (7, [(0, .ref a), (1, .long x1)], [], M)) rfl rfl rfl ?_
    refine ml_blk 3 (S' := (10, [(0, .ref a), (1, .long x1)], [.int (lg_cmp x1 0)], M)) rfl ?_
    refine ml_if (S1 := (24, [], [], M)) (S2 := (13, [(0, .ref a), (1, .long x1)], [], M)) rfl rfl rfl (fun c_10 => ?_) (fun c_10 => ?_)
    · have c_10 : (lg_cmp x1 0) < 0 := of_decide_eq_true c_10
      refine ml_st (S' := (25, [], [.int (-1)], M)) rfl rfl rfl ?_
      refine ml_st (S' := (37, [], [.int (-1)], M)) rfl rfl rfl ?_
      exact ml_ret rfl (rfl) (⟨⟨_, rfl⟩, rfl⟩)
    · have c_10 : ¬ ((lg_cmp x1 0) < 0) := of_decide_eq_false c_10
      refine ml_blk 2 (S' := (15, [(0, .ref a), (1, .long x1)], [.ref a, .long x1], M)) rfl ?_
      refine ml_get (S' := (18, [(0, .ref a), (1, .long x1)], [.ref b1, .long x1], M)) rfl g3 rfl ?_
      refine tl_row (k := 21) (ty := .int) (S' := (19, [(0, .ref a), (1, .long x1)], [.int (nI k4), .long x1], M)) rfl hS.1 h2 rfl rfl ?_
      refine ml_blk 2 (S' := (21, [(0, .ref a), (1, .long x1)], [.int (lg_cmp x1 (Int32.toInt64 (nI k4)))], M)) rfl ?_
      refine ml_if (S1 := (28, [(0, .ref a), (1, .long x1)], [], M)) (S2 := (24, [], [], M)) rfl rfl rfl (fun c_21 => ?_) (fun c_21 => ?_)
      · have c_21 : (lg_cmp x1 (Int32.toInt64 (nI k4))) < 0 := of_decide_eq_true c_21
        refine ml_st (S' := (29, [(0, .ref a), (1, .long x1)], [.ref a], M)) rfl rfl rfl ?_
        refine ml_get (S' := (32, [(0, .ref a), (1, .long x1)], [.ref b1], M)) rfl g3 rfl ?_
        refine ml_blk 2 (S' := (34, [(0, .ref a), (1, .long x1)], [.int (Int64.toInt32 x1), .ref b1], M)) rfl ?_
        refine ta_int rfl hS.1 h2 (lc_in (hS.1.rlen h2 rfl) c_10 c_21) (fun u5 => ?_)
        show ml _ _ _ (35, [(0, .ref a), (1, .long x1)], [.int u5], M) _
        refine ml_blk 2 (S' := (37, [], [.int (u5 - 1)], M)) rfl ?_
        exact ml_ret rfl (rfl) (⟨⟨_, rfl⟩, rfl⟩)
      · have c_21 : ¬ ((lg_cmp x1 (Int32.toInt64 (nI k4))) < 0) := of_decide_eq_false c_21
        refine ml_st (S' := (25, [], [.int (-1)], M)) rfl rfl rfl ?_
        refine ml_st (S' := (37, [], [.int (-1)], M)) rfl rfl rfl ?_
        exact ml_ret rfl (rfl) (⟨⟨_, rfl⟩, rfl⟩)
set_option maxHeartbeats 2000000 in
theorem tw_Co_targetsHold {g : xe_G} {M : mi_H} {Y : yT} {a p o k b da n : Nat} {pp : List Nat}  (hW : WF g Y M) (hY0 : Y.1 a = some (4, [p, o, k])) (hY1 : Y.1 p = some (7, pp)) (hY2 : Y.1 o = some (5, [b, k])) (hY3 : Y.1 b = some (1, [da, n])) {d : Nat} (hd : 4 ≤ d) : mt (mT g) d 85 [.ref a] M (pZ M) := by
  obtain ⟨d, rfl⟩ : ∃ e, d = e + 1 := ⟨d - 1, by omega⟩
  have hS : st g Y M M := st.rf hW
  refine mt_in (b := mb_85 g) rfl rfl ?_
  show ml (mT g) d (mb_85 g).2 (0, [(0, .ref a)], [], M) _
  refine ml_st (S' := (1, [(0, .ref a)], [.int 0], M)) rfl rfl rfl ?_
  refine ml_st (S' := (2, [(0, .ref a), (1, .int 0)], [], M)) rfl rfl rfl ?_
  have L_2 : ∀ (n_2 : Nat) (i2_1 : Int32), (2147483648 - i2_1.toInt).toNat ≤ n_2 → ml (mT g) d (mb_85 g).2 (2, [(0, .ref a), (1, .int i2_1)], [], M) (pZ M) := by
    intro n_2
    induction n_2 with
    | zero => intro i2_1 hn; exact (loop_zero hn).elim
    | succ n_2 ih_2 =>
      intro i2_1 hn_2
      refine ml_blk 2 (S' := (4, [(0, .ref a), (1, .int i2_1)], [.ref a, .int i2_1], M)) rfl ?_
      refine tg_ref (S' := (7, [(0, .ref a), (1, .int i2_1)], [.ref o, .int i2_1], M)) rfl hS.1 hY0 (by decide) rfl rfl ?_
      refine tg_int rfl hS.1 hY2 (by decide) rfl (fun u1 g2 => ?_)
      show ml _ _ _ (10, [(0, .ref a), (1, .int i2_1)], [.int u1, .int i2_1], M) _
      refine ml_if2 (S1 := (36, [(0, .ref a), (1, .int i2_1)], [], M)) (S2 := (13, [(0, .ref a), (1, .int i2_1)], [], M)) rfl rfl rfl (fun c_10 => ?_) (fun c_10 => ?_)
      · have c_10 : u1 ≤ i2_1 := of_decide_eq_true c_10
        refine ml_st (S' := (37, [(0, .ref a), (1, .int i2_1)], [.int 1], M)) rfl rfl rfl ?_
        exact ml_ret rfl (r_z (Or.inr rfl)) (⟨⟨_, rfl, Or.inr rfl⟩, rfl⟩)
      · have c_10 : ¬ (u1 ≤ i2_1) := of_decide_eq_false c_10
        refine ml_blk 2 (S' := (15, [(0, .ref a), (1, .int i2_1)], [.ref a, .ref a], M)) rfl ?_
        refine tg_ref (S' := (18, [(0, .ref a), (1, .int i2_1)], [.ref o, .ref a], M)) rfl hS.1 hY0 (by decide) rfl rfl ?_
        refine ml_st (S' := (19, [(0, .ref a), (1, .int i2_1)], [.int i2_1, .ref o, .ref a], M)) rfl rfl rfl ?_
        refine ml_call (a := [.ref o, .int i2_1]) (rest := [.ref a]) rfl (okc_t rfl rfl rfl hS.1 hY2 (by decide)) rfl rfl (ti_target hS.1 hY2 hY3 (by omega)) (fun v3 M4 h5 => ?_)
        obtain ⟨⟨u6, rfl⟩, h5⟩ := h5
        rw [h5]
        show ml _ _ _ (22, [(0, .ref a), (1, .int i2_1)], [.long u6, .ref a], M) _
        refine ml_call (a := [.ref a, .long u6]) (rest := []) rfl (okc_t rfl rfl rfl hS.1 hY0 (by decide)) rfl rfl (tw_Co_numberAt hS.1 hY0 hY1 hY2 hY3 (by omega)) (fun v7 M8 h9 => ?_)
        obtain ⟨⟨u10, rfl⟩, h9⟩ := h9
        rw [h9]
        show ml _ _ _ (25, [(0, .ref a), (1, .int i2_1)], [.int u10], M) _
        refine ml_if (S1 := (30, [(0, .ref a), (1, .int i2_1)], [], M)) (S2 := (28, [(0, .ref a), (1, .int i2_1)], [], M)) rfl rfl rfl (fun c_25 => ?_) (fun c_25 => ?_)
        · have c_25 : 0 ≤ u10 := of_decide_eq_true c_25
          refine ml_st (S' := (33, [(1, .int (i2_1 + 1)), (0, .ref a)], [], M)) rfl rfl rfl ?_
          refine ml_st (S' := (2, [(0, .ref a), (1, .int (i2_1 + 1))], [], M)) rfl rfl rfl ?_
          exact ih_2 (i2_1 + 1) (loop_inc (Int32.not_le.mp c_10) hn_2) 
        · have c_25 : ¬ (0 ≤ u10) := of_decide_eq_false c_25
          refine ml_st (S' := (29, [(0, .ref a), (1, .int i2_1)], [.int 0], M)) rfl rfl rfl ?_
          exact ml_ret rfl (r_z (Or.inl rfl)) (⟨⟨_, rfl, Or.inl rfl⟩, rfl⟩)
  exact L_2 _ 0 (Nat.le_refl _) 
set_option maxHeartbeats 2000000 in
theorem tw_Co_number {g : xe_G} {M : mi_H} {Y : yT} {a p o k b da n : Nat} {pp : List Nat} {x1 x2 : Int32}  (hW : WF g Y M) (hY0 : Y.1 a = some (4, [p, o, k])) (hY1 : Y.1 p = some (7, pp)) (hY2 : Y.1 o = some (5, [b, k])) (hY3 : Y.1 b = some (1, [da, n])) {d : Nat} (hd : 7 ≤ d) : mt (mT g) d 80 [.ref a, .int x1, .int x2] M (qI g Y M) := by
  obtain ⟨d, rfl⟩ : ∃ e, d = e + 1 := ⟨d - 1, by omega⟩
  have hS : st g Y M M := st.rf hW
  refine mt_in (b := mb_80 g) rfl rfl ?_
  show ml (mT g) d (mb_80 g).2 (0, [(0, .ref a), (1, .int x1), (2, .int x2)], [], M) _
  refine ml_blk 2 (S' := (2, [(0, .ref a), (1, .int x1), (2, .int x2)], [.int x1, .ref a], M)) rfl ?_
  refine ml_call (a := [.ref a, .int x1]) (rest := []) rfl (okc_t rfl rfl rfl hS.1 hY0 (by decide)) rfl rfl (tw_Co_startOf hS.1 hY0 hY1 hY2 hY3 (by omega)) (fun v1 M2 h3 => ?_)
  obtain ⟨⟨u4, rfl⟩, h3⟩ := h3
  rw [h3]
  show ml _ _ _ (5, [(0, .ref a), (1, .int x1), (2, .int x2)], [.int u4], M) _
  refine ml_st (S' := (6, [(3, .int u4), (0, .ref a), (1, .int x1), (2, .int x2)], [], M)) rfl rfl rfl ?_
  refine ml_st (S' := (7, [(3, .int u4), (0, .ref a), (1, .int x1), (2, .int x2)], [.ref a], M)) rfl rfl rfl ?_
  refine tg_ref (S' := (10, [(3, .int u4), (0, .ref a), (1, .int x1), (2, .int x2)], [.ref o], M)) rfl hS.1 hY0 (by decide) rfl rfl ?_
  refine ml_st (S' := (11, [(3, .int u4), (0, .ref a), (1, .int x1), (2, .int x2)], [.int u4, .ref o], M)) rfl rfl rfl ?_
  refine ml_call (a := [.ref o, .int u4]) (rest := []) rfl (okc_t rfl rfl rfl hS.1 hY2 (by decide)) rfl rfl (ti_isTakenApart hS.1 hY2 hY3 (by omega)) (fun v5 M6 h7 => ?_)
  obtain ⟨⟨u8, rfl, z9⟩, h7⟩ := h7
  have hS10 := hS.tr h7.1
  show ml _ _ _ (14, [(3, .int u4), (0, .ref a), (1, .int x1), (2, .int x2)], [.int u8], M6) _
  refine ml_if (S1 := (19, [(3, .int u4), (0, .ref a), (1, .int x1), (2, .int x2)], [], M6)) (S2 := (17, [(3, .int u4), (0, .ref a), (1, .int x1), (2, .int x2)], [], M6)) rfl rfl rfl (fun c_14 => ?_) (fun c_14 => ?_)
  · have c_14 : ¬ u8 = 0 := of_decide_eq_true c_14
    refine ml_st (S' := (20, [(3, .int u4), (0, .ref a), (1, .int x1), (2, .int x2)], [.int x2], M6)) rfl rfl rfl ?_
    refine ml_sw rfl (fun t_20 ht_20 => ?_)
    have kt_20 := ht_20
    have ht_20 : t_20 ∈ [52, 60, 62, 95, 103] := mi_sw_sub ht_20 (by decide)
    simp only [List.mem_cons, List.not_mem_nil, or_false] at ht_20
    rcases ht_20 with rfl | rfl | rfl | rfl | rfl
    · show ml _ _ _ (52, [(3, .int u4), (0, .ref a), (1, .int x1), (2, .int x2)], [], M6) _
      refine ml_st (S' := (53, [(3, .int u4), (0, .ref a), (1, .int x1), (2, .int x2)], [.ref a], M6)) rfl rfl rfl ?_
      refine tg_ref (S' := (56, [(3, .int u4), (0, .ref a), (1, .int x1), (2, .int x2)], [.ref o], M6)) rfl hS10.1 hY0 (by decide) rfl rfl ?_
      refine tg_int rfl hS10.1 hY2 (by decide) rfl (fun u11 g12 => ?_)
      show ml _ _ _ (59, [(3, .int u4), (0, .ref a), (1, .int x1), (2, .int x2)], [.int u11], M6) _
      exact ml_ret rfl (rfl) (⟨⟨_, rfl⟩, hS10⟩)
    · show ml _ _ _ (60, [(3, .int u4), (0, .ref a), (1, .int x1), (2, .int x2)], [], M6) _
      refine ml_st (S' := (61, [(3, .int u4), (0, .ref a), (1, .int x1), (2, .int x2)], [.int u4], M6)) rfl rfl rfl ?_
      exact ml_ret rfl (rfl) (⟨⟨_, rfl⟩, hS10⟩)
    · show ml _ _ _ (62, [(3, .int u4), (0, .ref a), (1, .int x1), (2, .int x2)], [], M6) _
      refine ml_st (S' := (63, [(3, .int u4), (0, .ref a), (1, .int x1), (2, .int x2)], [.ref a], M6)) rfl rfl rfl ?_
      refine tg_ref (S' := (66, [(3, .int u4), (0, .ref a), (1, .int x1), (2, .int x2)], [.ref o], M6)) rfl hS10.1 hY0 (by decide) rfl rfl ?_
      refine ml_call (a := [.ref o]) (rest := []) rfl (okc_t rfl rfl rfl hS10.1 hY2 (by decide)) rfl rfl (ti_isJump hS10.1 hY2 hY3 (by omega)) (fun v13 M14 h15 => ?_)
      obtain ⟨⟨u16, rfl, z17⟩, h15⟩ := h15
      rw [h15]
      show ml _ _ _ (69, [(3, .int u4), (0, .ref a), (1, .int x1), (2, .int x2)], [.int u16], M6) _
      refine ml_if (S1 := (87, [(3, .int u4), (0, .ref a), (1, .int x1), (2, .int x2)], [], M6)) (S2 := (72, [(3, .int u4), (0, .ref a), (1, .int x1), (2, .int x2)], [], M6)) rfl rfl rfl (fun c_69 => ?_) (fun c_69 => ?_)
      · have c_69 : u16 = 0 := of_decide_eq_true c_69
        refine ml_st (S' := (88, [(3, .int u4), (0, .ref a), (1, .int x1), (2, .int x2)], [.ref a], M6)) rfl rfl rfl ?_
        refine tg_ref (S' := (91, [(3, .int u4), (0, .ref a), (1, .int x1), (2, .int x2)], [.ref o], M6)) rfl hS10.1 hY0 (by decide) rfl rfl ?_
        refine tg_int rfl hS10.1 hY2 (by decide) rfl (fun u18 g19 => ?_)
        show ml _ _ _ (94, [], [.int u18], M6) _
        exact ml_ret rfl (rfl) (⟨⟨_, rfl⟩, hS10⟩)
      · have c_69 : ¬ (u16 = 0) := of_decide_eq_false c_69
        refine ml_blk 2 (S' := (74, [(3, .int u4), (0, .ref a), (1, .int x1), (2, .int x2)], [.ref a, .ref a], M6)) rfl ?_
        refine tg_ref (S' := (77, [(3, .int u4), (0, .ref a), (1, .int x1), (2, .int x2)], [.ref o, .ref a], M6)) rfl hS10.1 hY0 (by decide) rfl rfl ?_
        refine ml_st (S' := (78, [(3, .int u4), (0, .ref a), (1, .int x1), (2, .int x2)], [.int 0, .ref o, .ref a], M6)) rfl rfl rfl ?_
        refine ml_call (a := [.ref o, .int 0]) (rest := [.ref a]) rfl (okc_t rfl rfl rfl hS10.1 hY2 (by decide)) rfl rfl (ti_target hS10.1 hY2 hY3 (by omega)) (fun v20 M21 h22 => ?_)
        obtain ⟨⟨u23, rfl⟩, h22⟩ := h22
        rw [h22]
        show ml _ _ _ (81, [(3, .int u4), (0, .ref a), (1, .int x1), (2, .int x2)], [.long u23, .ref a], M6) _
        refine ml_call (a := [.ref a, .long u23]) (rest := []) rfl (okc_t rfl rfl rfl hS10.1 hY0 (by decide)) rfl rfl (tw_Co_numberAt hS10.1 hY0 hY1 hY2 hY3 (by omega)) (fun v24 M25 h26 => ?_)
        obtain ⟨⟨u27, rfl⟩, h26⟩ := h26
        rw [h26]
        show ml _ _ _ (84, [(3, .int u4), (0, .ref a), (1, .int x1), (2, .int x2)], [.int u27], M6) _
        refine ml_st (S' := (94, [], [.int u27], M6)) rfl rfl rfl ?_
        exact ml_ret rfl (rfl) (⟨⟨_, rfl⟩, hS10⟩)
    · show ml _ _ _ (95, [(3, .int u4), (0, .ref a), (1, .int x1), (2, .int x2)], [], M6) _
      refine ml_st (S' := (96, [(3, .int u4), (0, .ref a), (1, .int x1), (2, .int x2)], [.ref a], M6)) rfl rfl rfl ?_
      refine tg_ref (S' := (99, [(3, .int u4), (0, .ref a), (1, .int x1), (2, .int x2)], [.ref o], M6)) rfl hS10.1 hY0 (by decide) rfl rfl ?_
      refine tg_int rfl hS10.1 hY2 (by decide) rfl (fun u28 g29 => ?_)
      show ml _ _ _ (102, [(3, .int u4), (0, .ref a), (1, .int x1), (2, .int x2)], [.int u28], M6) _
      exact ml_ret rfl (rfl) (⟨⟨_, rfl⟩, hS10⟩)
    · show ml _ _ _ (103, [(3, .int u4), (0, .ref a), (1, .int x1), (2, .int x2)], [], M6) _
      refine ml_st (S' := (104, [(3, .int u4), (0, .ref a), (1, .int x1), (2, .int x2)], [.ref a], M6)) rfl rfl rfl ?_
      refine tg_ref (S' := (107, [(3, .int u4), (0, .ref a), (1, .int x1), (2, .int x2)], [.ref o], M6)) rfl hS10.1 hY0 (by decide) rfl rfl ?_
      refine ml_call (a := [.ref o]) (rest := []) rfl (okc_t rfl rfl rfl hS10.1 hY2 (by decide)) rfl rfl (ti_isSwitch hS10.1 hY2 hY3 (by omega)) (fun v30 M31 h32 => ?_)
      obtain ⟨⟨u33, rfl, z34⟩, h32⟩ := h32
      rw [h32]
      show ml _ _ _ (110, [(3, .int u4), (0, .ref a), (1, .int x1), (2, .int x2)], [.int u33], M6) _
      refine ml_if (S1 := (123, [(3, .int u4), (0, .ref a), (1, .int x1), (2, .int x2)], [], M6)) (S2 := (113, [(3, .int u4), (0, .ref a), (1, .int x1), (2, .int x2)], [], M6)) rfl rfl rfl (fun c_110 => ?_) (fun c_110 => ?_)
      · have c_110 : u33 = 0 := of_decide_eq_true c_110
        refine ml_st (S' := (124, [], [.int 0], M6)) rfl rfl rfl ?_
        exact ml_ret rfl (rfl) (⟨⟨_, rfl⟩, hS10⟩)
      · have c_110 : ¬ (u33 = 0) := of_decide_eq_false c_110
        refine ml_st (S' := (114, [(3, .int u4), (0, .ref a), (1, .int x1), (2, .int x2)], [.ref a], M6)) rfl rfl rfl ?_
        refine tg_ref (S' := (117, [(3, .int u4), (0, .ref a), (1, .int x1), (2, .int x2)], [.ref o], M6)) rfl hS10.1 hY0 (by decide) rfl rfl ?_
        refine tg_int rfl hS10.1 hY2 (by decide) rfl (fun u35 g36 => ?_)
        show ml _ _ _ (120, [(3, .int u4), (0, .ref a), (1, .int x1), (2, .int x2)], [.int u35], M6) _
        refine ml_st (S' := (124, [], [.int u35], M6)) rfl rfl rfl ?_
        exact ml_ret rfl (rfl) (⟨⟨_, rfl⟩, hS10⟩)
  · have c_14 : ¬ (¬ u8 = 0) := of_decide_eq_false c_14
    refine ml_st (S' := (18, [(3, .int u4), (0, .ref a), (1, .int x1), (2, .int x2)], [.int (-1)], M6)) rfl rfl rfl ?_
    exact ml_ret rfl (rfl) (⟨⟨_, rfl⟩, hS10⟩)
set_option maxHeartbeats 2000000 in
theorem tw_Co_switchPlace {g : xe_G} {M : mi_H} {Y : yT} {a p o k b da n : Nat} {pp : List Nat} {x1 x2 x3 : Int32}  (hW : WF g Y M) (hY0 : Y.1 a = some (4, [p, o, k])) (hY1 : Y.1 p = some (7, pp)) (hY2 : Y.1 o = some (5, [b, k])) (hY3 : Y.1 b = some (1, [da, n])) {d : Nat} (hd : 7 ≤ d) : mt (mT g) d 84 [.ref a, .int x1, .int x2, .int x3] M (qI g Y M) := by
  obtain ⟨d, rfl⟩ : ∃ e, d = e + 1 := ⟨d - 1, by omega⟩
  have hS : st g Y M M := st.rf hW
  refine mt_in (b := mb_84 g) rfl rfl ?_
  show ml (mT g) d (mb_84 g).2 (0, [(0, .ref a), (1, .int x1), (2, .int x2), (3, .int x3)], [], M) _
  refine ml_st (S' := (1, [(0, .ref a), (1, .int x1), (2, .int x2), (3, .int x3)], [.ref a], M)) rfl rfl rfl ?_
  refine tg_ref (S' := (4, [(0, .ref a), (1, .int x1), (2, .int x2), (3, .int x3)], [.ref o], M)) rfl hS.1 hY0 (by decide) rfl rfl ?_
  refine ml_blk 2 (S' := (6, [(0, .ref a), (1, .int x1), (2, .int x2), (3, .int x3)], [.int x1, .ref a, .ref o], M)) rfl ?_
  refine ml_call (a := [.ref a, .int x1]) (rest := [.ref o]) rfl (okc_t rfl rfl rfl hS.1 hY0 (by decide)) rfl rfl (tw_Co_startOf hS.1 hY0 hY1 hY2 hY3 (by omega)) (fun v1 M2 h3 => ?_)
  obtain ⟨⟨u4, rfl⟩, h3⟩ := h3
  rw [h3]
  show ml _ _ _ (9, [(0, .ref a), (1, .int x1), (2, .int x2), (3, .int x3)], [.int u4, .ref o], M) _
  refine ml_call (a := [.ref o, .int u4]) (rest := []) rfl (okc_t rfl rfl rfl hS.1 hY2 (by decide)) rfl rfl (ti_isTakenApart hS.1 hY2 hY3 (by omega)) (fun v5 M6 h7 => ?_)
  obtain ⟨⟨u8, rfl, z9⟩, h7⟩ := h7
  have hS10 := hS.tr h7.1
  show ml _ _ _ (12, [(0, .ref a), (1, .int x1), (2, .int x2), (3, .int x3)], [.int u8], M6) _
  refine ml_if (S1 := (40, [], [], M6)) (S2 := (15, [(0, .ref a), (1, .int x1), (2, .int x2), (3, .int x3)], [], M6)) rfl rfl rfl (fun c_12 => ?_) (fun c_12 => ?_)
  · have c_12 : u8 = 0 := of_decide_eq_true c_12
    refine ml_st (S' := (41, [], [.int (-1)], M6)) rfl rfl rfl ?_
    exact ml_ret rfl (rfl) (⟨⟨_, rfl⟩, hS10⟩)
  · have c_12 : ¬ (u8 = 0) := of_decide_eq_false c_12
    refine ml_st (S' := (16, [(0, .ref a), (1, .int x1), (2, .int x2), (3, .int x3)], [.ref a], M6)) rfl rfl rfl ?_
    refine tg_ref (S' := (19, [(0, .ref a), (1, .int x1), (2, .int x2), (3, .int x3)], [.ref o], M6)) rfl hS10.1 hY0 (by decide) rfl rfl ?_
    refine ml_call (a := [.ref o]) (rest := []) rfl (okc_t rfl rfl rfl hS10.1 hY2 (by decide)) rfl rfl (ti_isSwitch hS10.1 hY2 hY3 (by omega)) (fun v11 M12 h13 => ?_)
    obtain ⟨⟨u14, rfl, z15⟩, h13⟩ := h13
    rw [h13]
    show ml _ _ _ (22, [(0, .ref a), (1, .int x1), (2, .int x2), (3, .int x3)], [.int u14], M6) _
    refine ml_if (S1 := (40, [], [], M6)) (S2 := (25, [(0, .ref a), (1, .int x1), (2, .int x2), (3, .int x3)], [], M6)) rfl rfl rfl (fun c_22 => ?_) (fun c_22 => ?_)
    · have c_22 : u14 = 0 := of_decide_eq_true c_22
      refine ml_st (S' := (41, [], [.int (-1)], M6)) rfl rfl rfl ?_
      exact ml_ret rfl (rfl) (⟨⟨_, rfl⟩, hS10⟩)
    · have c_22 : ¬ (u14 = 0) := of_decide_eq_false c_22
      refine ml_st (S' := (26, [(0, .ref a), (1, .int x1), (2, .int x2), (3, .int x3)], [.int x2], M6)) rfl rfl rfl ?_
      refine ml_if (S1 := (40, [], [], M6)) (S2 := (29, [(0, .ref a), (1, .int x1), (2, .int x2), (3, .int x3)], [], M6)) rfl rfl rfl (fun c_26 => ?_) (fun c_26 => ?_)
      · have c_26 : x2 < 0 := of_decide_eq_true c_26
        refine ml_st (S' := (41, [], [.int (-1)], M6)) rfl rfl rfl ?_
        exact ml_ret rfl (rfl) (⟨⟨_, rfl⟩, hS10⟩)
      · have c_26 : ¬ (x2 < 0) := of_decide_eq_false c_26
        refine ml_blk 2 (S' := (31, [(0, .ref a), (1, .int x1), (2, .int x2), (3, .int x3)], [.ref a, .int x2], M6)) rfl ?_
        refine tg_ref (S' := (34, [(0, .ref a), (1, .int x1), (2, .int x2), (3, .int x3)], [.ref o, .int x2], M6)) rfl hS10.1 hY0 (by decide) rfl rfl ?_
        refine tg_int rfl hS10.1 hY2 (by decide) rfl (fun u16 g17 => ?_)
        show ml _ _ _ (37, [(0, .ref a), (1, .int x1), (2, .int x2), (3, .int x3)], [.int u16, .int x2], M6) _
        refine ml_if2 (S1 := (42, [(0, .ref a), (1, .int x1), (2, .int x2), (3, .int x3)], [], M6)) (S2 := (40, [], [], M6)) rfl rfl rfl (fun c_37 => ?_) (fun c_37 => ?_)
        · have c_37 : x2 < u16 := of_decide_eq_true c_37
          refine ml_st (S' := (43, [(0, .ref a), (1, .int x1), (2, .int x2), (3, .int x3)], [.int x3], M6)) rfl rfl rfl ?_
          refine ml_if (S1 := (57, [(0, .ref a), (1, .int x1), (2, .int x2), (3, .int x3)], [], M6)) (S2 := (46, [(0, .ref a), (1, .int x1), (2, .int x2), (3, .int x3)], [], M6)) rfl rfl rfl (fun c_43 => ?_) (fun c_43 => ?_)
          · have c_43 : x3 = 0 := of_decide_eq_true c_43
            refine ml_blk 2 (S' := (59, [(0, .ref a), (1, .int x1), (2, .int x2), (3, .int x3)], [.ref a, .ref a], M6)) rfl ?_
            refine tg_ref (S' := (62, [(0, .ref a), (1, .int x1), (2, .int x2), (3, .int x3)], [.ref o, .ref a], M6)) rfl hS10.1 hY0 (by decide) rfl rfl ?_
            refine ml_st (S' := (63, [(0, .ref a), (1, .int x1), (2, .int x2), (3, .int x3)], [.int x2, .ref o, .ref a], M6)) rfl rfl rfl ?_
            refine ml_call (a := [.ref o, .int x2]) (rest := [.ref a]) rfl (okc_t rfl rfl rfl hS10.1 hY2 (by decide)) rfl rfl (ti_target hS10.1 hY2 hY3 (by omega)) (fun v18 M19 h20 => ?_)
            obtain ⟨⟨u21, rfl⟩, h20⟩ := h20
            rw [h20]
            show ml _ _ _ (66, [(0, .ref a), (1, .int x1), (2, .int x2), (3, .int x3)], [.long u21, .ref a], M6) _
            refine ml_call (a := [.ref a, .long u21]) (rest := []) rfl (okc_t rfl rfl rfl hS10.1 hY0 (by decide)) rfl rfl (tw_Co_numberAt hS10.1 hY0 hY1 hY2 hY3 (by omega)) (fun v22 M23 h24 => ?_)
            obtain ⟨⟨u25, rfl⟩, h24⟩ := h24
            rw [h24]
            show ml _ _ _ (69, [], [.int u25], M6) _
            exact ml_ret rfl (rfl) (⟨⟨_, rfl⟩, hS10⟩)
          · have c_43 : ¬ (x3 = 0) := of_decide_eq_false c_43
            refine ml_st (S' := (47, [(0, .ref a), (1, .int x1), (2, .int x2), (3, .int x3)], [.ref a], M6)) rfl rfl rfl ?_
            refine tg_ref (S' := (50, [(0, .ref a), (1, .int x1), (2, .int x2), (3, .int x3)], [.ref o], M6)) rfl hS10.1 hY0 (by decide) rfl rfl ?_
            refine ml_st (S' := (51, [(0, .ref a), (1, .int x1), (2, .int x2), (3, .int x3)], [.int x2, .ref o], M6)) rfl rfl rfl ?_
            refine ml_call (a := [.ref o, .int x2]) (rest := []) rfl (okc_t rfl rfl rfl hS10.1 hY2 (by decide)) rfl rfl (ti_keyOf hS10.1 hY2 hY3 (by omega)) (fun v26 M27 h28 => ?_)
            obtain ⟨⟨u29, rfl⟩, h28⟩ := h28
            rw [h28]
            show ml _ _ _ (54, [(0, .ref a), (1, .int x1), (2, .int x2), (3, .int x3)], [.int u29], M6) _
            refine ml_st (S' := (69, [], [.int u29], M6)) rfl rfl rfl ?_
            exact ml_ret rfl (rfl) (⟨⟨_, rfl⟩, hS10⟩)
        · have c_37 : ¬ (x2 < u16) := of_decide_eq_false c_37
          refine ml_st (S' := (41, [], [.int (-1)], M6)) rfl rfl rfl ?_
          exact ml_ret rfl (rfl) (⟨⟨_, rfl⟩, hS10⟩)
end
section
/-! the pool is written (my own text) -/
section MIP
variable {g : xe_G} {Y : yT} {M : mi_H}
def qd (q : Nat → Nat) : Prop := ∀ i j, 1 ≤ i → i ≤ 6 → 1 ≤ j → j ≤ 6 → i ≠ j → q i ≠ q j
theorem WF.qd {p n m : Nat} {q : Nat → Nat} (h : WF g Y M) (hY : Y.1 p = some (7, [n, m, q 1, q 2, q 3, q 4, q 5, q 6])) : qd q ∧ ∀ i, 1 ≤ i → i ≤ 6 → ∃ r, Y.1 (q i) = some (30 + i, r :: [p]) := by
  obtain ⟨k1, k2, k3, k4, k5, k6⟩ := h.lnk hY (by decide)
  have hq : ∀ i, 1 ≤ i → i ≤ 6 → ∃ r, Y.1 (q i) = some (30 + i, r :: [p]) := by
    intro i hi1 hi6
    have : i = 1 ∨ i = 2 ∨ i = 3 ∨ i = 4 ∨ i = 5 ∨ i = 6 := by omega
    rcases this with rfl | rfl | rfl | rfl | rfl | rfl
    · exact ⟨_, k1⟩
    · exact ⟨_, k2⟩
    · exact ⟨_, k3⟩
    · exact ⟨_, k4⟩
    · exact ⟨_, k5⟩
    · exact ⟨_, k6⟩
  refine ⟨fun i j hi1 hi6 hj1 hj6 hij => ?_, hq⟩
  obtain ⟨r1, h1⟩ := hq i hi1 hi6
  obtain ⟨r2, h2⟩ := hq j hj1 hj6
  exact ykne h1 h2 (by omega)
theorem PL.up {p i : Nat} {size : Int32} {n m : Nat} {q : Nat → Nat} {f : Nat → Nat → Int32} {cc : Int32} {f' : Nat → Int32} (hP : PL M p size n m q f cc) (hQ : qd q) (h1 : 1 ≤ i) (h5 : i ≤ 5) : PL (up M (q i) (ar .int n f')) p size n m q (fun j => if j = i then f' else f j) cc := by
  refine ⟨up_eq hP.1 (fun e => ?_), fun j hj1 hj5 => ?_, ?_⟩
  · have := hP.2.1 i h1 h5
    rw [← e, hP.1] at this
    simp [ob, ar] at this
  · by_cases e : j = i
    · subst e
      simp only [if_true]
      exact up_at
    · simp only [e, if_false]
      exact up_eq (hP.2.1 j hj1 hj5) (hQ j i hj1 (by omega) h1 (by omega) e)
  · have : (6 : Nat) ≠ i := by omega
    simp only [this, if_false]
    exact up_eq hP.2.2 (hQ 6 i (by omega) (by omega) h1 (by omega) this)
/-- a pool is written: its rows and its count; all else as it was -/
theorem WF.poolset {M' : mi_H} {p : Nat} {size : Int32} {n m : Nat} {q : Nat → Nat} {f' : Nat → Nat → Int32} {cc' : Int32} (hW : WF g Y M) (hY : Y.1 p = some (7, [n, m, q 1, q 2, q 3, q 4, q 5, q 6])) (hF : ∀ z, z ≠ p → (∀ i, 1 ≤ i → i ≤ 6 → z ≠ q i) → M'.1 z = M.1 z) (h2 : M'.2 = M.2) (hP : PL M' p size n m q f' cc') (hT : txt n m f' cc') (hs : size.toInt ≤ 65535) (hc : ∀ i, ch16 (f' 6 i)) : st g Y M M' := by
  obtain ⟨hQ, hq⟩ := hW.qd hY
  have hl := hW.lnk hY (by decide)
  have hnm : n < 1073741824 ∧ m < 1073741824 := by
    obtain ⟨l, -, -, -, -, h5⟩ := (hW.1 p 7 _ hY).obj (by decide)
    exact ⟨h5.1, h5.2.1⟩
  have hoth : ∀ b kb pb, Y.1 b = some (kb, pb) → b ≠ p → (∀ i, 1 ≤ i → i ≤ 6 → b ≠ q i) → M'.1 b = M.1 b := fun b kb pb _ h3 h4 => hF b h3 h4
  refine ⟨⟨fun b kb pb hb => ?_, fun a t ha => by rw [h2]; exact hW.2.1 a t ha, ?_⟩, h2, fun x hx => ?_⟩
  · by_cases e : b = p
    · subst e
      cases hY.symm.trans hb
      refine Or.inl ⟨by decide, _, hP.1, by simp [sch], ⟨rfl, fun k v P h3 h4 => ?_⟩, hl, hnm.1, hnm.2, cc', size, f' 1, f' 3, f' 4, rfl, rfl, hs, hP.2.1 1 (by decide) (by decide), hP.2.1 3 (by decide) (by decide), hP.2.1 4 (by decide) (by decide), hT⟩
      have hk : k = 0 ∨ k = 1 ∨ k = 2 ∨ k = 3 ∨ k = 4 ∨ k = 5 ∨ k = 6 ∨ k = 7 := by
        have := (List.getElem?_eq_some_iff.mp h3).1
        simp at this
        omega
      rcases hk with rfl | rfl | rfl | rfl | rfl | rfl | rfl | rfl <;> cases h3 <;> cases h4
      · exact ⟨_, rfl⟩
      · rfl
      · rfl
      · rfl
      · rfl
      · rfl
      · rfl
      · exact ⟨_, rfl⟩
    · by_cases e2 : ∃ i, 1 ≤ i ∧ i ≤ 6 ∧ b = q i
      · obtain ⟨i, hi1, hi6, rfl⟩ := e2
        obtain ⟨r, hr⟩ := hq i hi1 hi6
        cases hr.symm.trans hb
        refine Or.inr (Or.inl ⟨r, [p], rfl, ?_⟩)
        have hi : i = 1 ∨ i = 2 ∨ i = 3 ∨ i = 4 ∨ i = 5 ∨ i = 6 := by omega
        obtain ⟨k1, k2, k3, k4, k5, k6⟩ := hl
        rcases hi with rfl | rfl | rfl | rfl | rfl | rfl
        · cases k1.symm.trans hr
          exact ⟨.int, f' 1, rfl, hP.2.1 1 (by decide) (by decide), hnm.1, fun h => absurd h (by decide), fun h => absurd h (by decide), fun h => absurd h (by decide)⟩
        · cases k2.symm.trans hr
          exact ⟨.int, f' 2, rfl, hP.2.1 2 (by decide) (by decide), hnm.1, fun h => absurd h (by decide), fun h => absurd h (by decide), fun h => absurd h (by decide)⟩
        · cases k3.symm.trans hr
          exact ⟨.int, f' 3, rfl, hP.2.1 3 (by decide) (by decide), hnm.1, fun h => absurd h (by decide), fun h => absurd h (by decide), fun h => absurd h (by decide)⟩
        · cases k4.symm.trans hr
          exact ⟨.int, f' 4, rfl, hP.2.1 4 (by decide) (by decide), hnm.1, fun h => absurd h (by decide), fun h => absurd h (by decide), fun h => absurd h (by decide)⟩
        · cases k5.symm.trans hr
          exact ⟨.int, f' 5, rfl, hP.2.1 5 (by decide) (by decide), hnm.1, fun h => absurd h (by decide), fun h => absurd h (by decide), fun h => absurd h (by decide)⟩
        · cases k6.symm.trans hr
          exact ⟨.char, f' 6, rfl, hP.2.2, hnm.2, fun h => absurd h (by decide), fun h => absurd h (by decide), fun _ => hc⟩
      · have e3 : ∀ i, 1 ≤ i → i ≤ 6 → b ≠ q i := fun i h3 h4 h5 => e2 ⟨i, h3, h4, h5⟩
        have hbM := hF b e e3
        rcases hW.1 b kb pb hb with ⟨hk0, l, h3, h4, h5, h6, h7⟩ | ⟨n', r', e', ty', f0, h3, h4, h5⟩ | ⟨hk0, n', da, m', e', hn, f0, h3, h4⟩
        · refine Or.inl ⟨hk0, l, hbM.trans h3, h4, h5, h6, ?_⟩
          unfold xtr at h7 ⊢
          split at h7
          · exact h7
          · exact h7
          · exact h7
          · exact h7
          · rename_i n2 m2 t2 tp2 f2 s2 sh2 ch2
            obtain ⟨a1, a2, cc, sz, g1, g3, g4, b1, b2, b3, b4, b5, b6, b7⟩ := h7
            obtain ⟨k1, k2, k3, k4, k5, k6⟩ := h6
            have ne : ∀ z kz nz, Y.1 z = some (kz, [nz, b]) → 31 ≤ kz → z ≠ p ∧ ∀ i, 1 ≤ i → i ≤ 6 → z ≠ q i := by
              intro z kz nz hz hkz
              refine ⟨ykne hz hY (by omega), fun i hi1 hi6 ez => ?_⟩
              obtain ⟨r, hr⟩ := hq i hi1 hi6
              rw [ez, hr] at hz
              simp only [Option.some.injEq, Prod.mk.injEq, List.cons.injEq, and_true] at hz
              exact e hz.2.2.symm
            have x1 := ne _ _ _ k1 (by decide)
            have x3 := ne _ _ _ k3 (by decide)
            have x4 := ne _ _ _ k4 (by decide)
            exact ⟨a1, a2, cc, sz, g1, g3, g4, b1, b2, b3, (hF _ x1.1 x1.2).trans b4, (hF _ x3.1 x3.2).trans b5, (hF _ x4.1 x4.2).trans b6, b7⟩
          · exact h7
          · trivial
        · exact Or.inr (Or.inl ⟨n', r', e', ty', f0, h3, hbM.trans h4, h5⟩)
        · exact Or.inr (Or.inr ⟨hk0, n', da, m', e', hn, f0, hbM.trans h3, h4⟩)
  · intro k hk
    obtain ⟨hb, fl, hfl⟩ := hW.2.2 k hk
    refine ⟨by rw [h2]; exact hb, fl, (hF _ ?_ ?_).trans hfl⟩
    · intro e
      obtain ⟨l, h3⟩ := hW.cls hY (by decide)
      rw [e, h3] at hfl
      simp [ob] at hfl
      omega
    · intro i hi1 hi6 e
      obtain ⟨r, hr⟩ := hq i hi1 hi6
      rcases hW.1 _ _ _ hr with ⟨h3, -⟩ | ⟨n', r', e', ty', f0, h3, h4, h5⟩ | ⟨h3, -⟩
      · omega
      · rw [e, h4] at hfl
        simp [ar] at hfl
      · omega
  · refine hF x (fun e => ?_) (fun i hi1 hi6 e => ?_)
    · rw [e, hY] at hx
      cases hx
    · obtain ⟨r, hr⟩ := hq i hi1 hi6
      rw [e, hr] at hx
      cases hx
theorem ch16_nar (x : Int32) : ch16 (vp_nar .char (Int32.toUInt32 x % 65536).toInt32) := by
  have h := pk_nc x
  unfold ch16 vp_nar
  rw [h]
  exact h
end MIP
end
section
/-! the pool's writers (laid by wip/p2/c48.py) -/
theorem vin_out {a : Int32} {n : Nat} (hn : n < 1073741824) (h : nI n ≤ a) : ¬ vp_in a n := by
  intro h1
  have h2 := Int32.le_iff_toInt_le.mp h
  rw [nI_val hn] at h2
  refine h1 (Or.inr ?_)
  show n ≤ a.toInt.toNat
  omega
theorem vin_neg {a : Int32} {n : Nat} (h : a < 0) : ¬ vp_in a n := fun h1 => h1 (Or.inl h)
theorem upd_at {f : Nat → Int32} {k : Nat} {x : Int32} : upd f k x k = x := by simp [upd]
theorem upd_ne {f : Nat → Int32} {k j : Nat} {x : Int32} (h : j ≠ k) : upd f k x j = f j := by simp [upd, h]

set_option maxHeartbeats 1000000 in
theorem ct_setTag {g : xe_G} {M : mi_H} {p : Nat} {size : Int32} {n m : Nat} {q : Nat → Nat} {f : Nat → Nat → Int32} {cc : Int32} {x1 x2 x3 : Int32} (hP : PL M p size n m q f cc) (hQ : qd q) (hn : n < 1073741824) {d : Nat} (hd : 1 ≤ d) : mt (mT g) d 136 [.ref p, .int x1, .int x2, .int x3] M (fun v M' => v = none ∧ ((¬ vp_in x1 n ∧ M' = M) ∨ (vp_in x1 n ∧ M' = up (up M (q 1) (ar .int n (upd (f 1) (Int32.toNatClampNeg x1) x2))) (q 2) (ar .int n (upd (f 2) (Int32.toNatClampNeg x1) x3))))) := by
  obtain ⟨d, rfl⟩ : ∃ e, d = e + 1 := ⟨d - 1, by omega⟩
  refine mt_in (b := mb_136 g) rfl rfl ?_
  show ml (mT g) d (mb_136 g).2 (0, [(0, .ref p), (1, .int x1), (2, .int x2), (3, .int x3)], [], M) _
  refine ml_st (S' := (1, [(0, .ref p), (1, .int x1), (2, .int x2), (3, .int x3)], [.int x1], M)) rfl rfl rfl ?_
  refine ml_if (S1 := (27, [], [], M)) (S2 := (4, [(0, .ref p), (1, .int x1), (2, .int x2), (3, .int x3)], [], M)) rfl rfl rfl (fun c_1 => ?_) (fun c_1 => ?_)
  · have c_1 : x1 < 0 := of_decide_eq_true c_1
    exact ml_ret rfl (rfl) (⟨rfl, by first | exact Or.inr ⟨vin_ge c_1 c_10, rfl⟩ | exact Or.inl ⟨vin_neg c_1, rfl⟩ | exact Or.inl ⟨vin_out hn c_10, rfl⟩⟩)
  · have c_1 : ¬ (x1 < 0) := of_decide_eq_false c_1
    refine ml_st (S' := (5, [(0, .ref p), (1, .int x1), (2, .int x2), (3, .int x3)], [.int x1], M)) rfl rfl rfl ?_
    refine ml_st (S' := (6, [(0, .ref p), (1, .int x1), (2, .int x2), (3, .int x3)], [.ref p, .int x1], M)) rfl rfl rfl ?_
    refine mo_get (S' := (9, [(0, .ref p), (1, .int x1), (2, .int x2), (3, .int x3)], [.ref (q 1), .int x1], M)) rfl hP.1 rfl rfl ?_
    refine mo_alen (S' := (10, [(0, .ref p), (1, .int x1), (2, .int x2), (3, .int x3)], [.int (nI n), .int x1], M)) rfl (hP.2.1 1 (by decide) (by decide)) rfl ?_
    refine ml_if2 (S1 := (27, [], [], M)) (S2 := (13, [(0, .ref p), (1, .int x1), (2, .int x2), (3, .int x3)], [], M)) rfl rfl rfl (fun c_10 => ?_) (fun c_10 => ?_)
    · have c_10 : (nI n) ≤ x1 := of_decide_eq_true c_10
      exact ml_ret rfl (rfl) (⟨rfl, by first | exact Or.inr ⟨vin_ge c_1 c_10, rfl⟩ | exact Or.inl ⟨vin_neg c_1, rfl⟩ | exact Or.inl ⟨vin_out hn c_10, rfl⟩⟩)
    · have c_10 : ¬ ((nI n) ≤ x1) := of_decide_eq_false c_10
      refine ml_st (S' := (14, [(0, .ref p), (1, .int x1), (2, .int x2), (3, .int x3)], [.ref p], M)) rfl rfl rfl ?_
      refine mo_get (S' := (17, [(0, .ref p), (1, .int x1), (2, .int x2), (3, .int x3)], [.ref (q 1)], M)) rfl hP.1 rfl rfl ?_
      refine ml_st (S' := (18, [(0, .ref p), (1, .int x1), (2, .int x2), (3, .int x3)], [.int x1, .ref (q 1)], M)) rfl rfl rfl ?_
      refine ml_st (S' := (19, [(0, .ref p), (1, .int x1), (2, .int x2), (3, .int x3)], [.int x2, .int x1, .ref (q 1)], M)) rfl rfl rfl ?_
      refine mo_ast (S' := (20, [(0, .ref p), (1, .int x1), (2, .int x2), (3, .int x3)], [], (up M (q 1) (ar .int n (upd (f 1) (Int32.toNatClampNeg x1) x2))))) rfl (hP.2.1 1 (by decide) (by decide)) (vin_ge c_1 c_10) rfl ?_
      have hP1 := hP.up (f' := upd (f 1) (Int32.toNatClampNeg x1) x2) hQ (i := 1) (by decide) (by decide)
      generalize hM1 : (up M (q 1) (ar .int n (upd (f 1) (Int32.toNatClampNeg x1) x2))) = M1 at hP1 ⊢
      refine ml_st (S' := (21, [(0, .ref p), (1, .int x1), (2, .int x2), (3, .int x3)], [.ref p], M1)) rfl rfl rfl ?_
      refine mo_get (S' := (24, [(0, .ref p), (1, .int x1), (2, .int x2), (3, .int x3)], [.ref (q 2)], M1)) rfl hP1.1 rfl rfl ?_
      refine ml_st (S' := (25, [(0, .ref p), (1, .int x1), (2, .int x2), (3, .int x3)], [.int x1, .ref (q 2)], M1)) rfl rfl rfl ?_
      refine ml_st (S' := (26, [(0, .ref p), (1, .int x1), (2, .int x2), (3, .int x3)], [.int x3, .int x1, .ref (q 2)], M1)) rfl rfl rfl ?_
      refine mo_ast (S' := (27, [], [], (up M1 (q 2) (ar .int n (upd (f 2) (Int32.toNatClampNeg x1) x3))))) rfl (hP1.2.1 2 (by decide) (by decide)) (vin_ge c_1 c_10) rfl ?_
      exact ml_ret rfl (rfl) (⟨rfl, by first | exact Or.inr ⟨vin_ge c_1 c_10, rfl⟩ | exact Or.inl ⟨vin_neg c_1, rfl⟩ | exact Or.inl ⟨vin_out hn c_10, rfl⟩⟩)
set_option maxHeartbeats 1000000 in
theorem ct_setNumbers {g : xe_G} {M : mi_H} {p : Nat} {size : Int32} {n m : Nat} {q : Nat → Nat} {f : Nat → Nat → Int32} {cc : Int32} {x1 x2 x3 : Int32} (hP : PL M p size n m q f cc) (hQ : qd q) (hn : n < 1073741824) {d : Nat} (hd : 1 ≤ d) : mt (mT g) d 135 [.ref p, .int x1, .int x2, .int x3] M (fun v M' => v = none ∧ ((¬ vp_in x1 n ∧ M' = M) ∨ (vp_in x1 n ∧ M' = up (up M (q 3) (ar .int n (upd (f 3) (Int32.toNatClampNeg x1) x2))) (q 4) (ar .int n (upd (f 4) (Int32.toNatClampNeg x1) x3))))) := by
  obtain ⟨d, rfl⟩ : ∃ e, d = e + 1 := ⟨d - 1, by omega⟩
  refine mt_in (b := mb_135 g) rfl rfl ?_
  show ml (mT g) d (mb_135 g).2 (0, [(0, .ref p), (1, .int x1), (2, .int x2), (3, .int x3)], [], M) _
  refine ml_st (S' := (1, [(0, .ref p), (1, .int x1), (2, .int x2), (3, .int x3)], [.int x1], M)) rfl rfl rfl ?_
  refine ml_if (S1 := (27, [], [], M)) (S2 := (4, [(0, .ref p), (1, .int x1), (2, .int x2), (3, .int x3)], [], M)) rfl rfl rfl (fun c_1 => ?_) (fun c_1 => ?_)
  · have c_1 : x1 < 0 := of_decide_eq_true c_1
    exact ml_ret rfl (rfl) (⟨rfl, by first | exact Or.inr ⟨vin_ge c_1 c_10, rfl⟩ | exact Or.inl ⟨vin_neg c_1, rfl⟩ | exact Or.inl ⟨vin_out hn c_10, rfl⟩⟩)
  · have c_1 : ¬ (x1 < 0) := of_decide_eq_false c_1
    refine ml_st (S' := (5, [(0, .ref p), (1, .int x1), (2, .int x2), (3, .int x3)], [.int x1], M)) rfl rfl rfl ?_
    refine ml_st (S' := (6, [(0, .ref p), (1, .int x1), (2, .int x2), (3, .int x3)], [.ref p, .int x1], M)) rfl rfl rfl ?_
    refine mo_get (S' := (9, [(0, .ref p), (1, .int x1), (2, .int x2), (3, .int x3)], [.ref (q 1), .int x1], M)) rfl hP.1 rfl rfl ?_
    refine mo_alen (S' := (10, [(0, .ref p), (1, .int x1), (2, .int x2), (3, .int x3)], [.int (nI n), .int x1], M)) rfl (hP.2.1 1 (by decide) (by decide)) rfl ?_
    refine ml_if2 (S1 := (27, [], [], M)) (S2 := (13, [(0, .ref p), (1, .int x1), (2, .int x2), (3, .int x3)], [], M)) rfl rfl rfl (fun c_10 => ?_) (fun c_10 => ?_)
    · have c_10 : (nI n) ≤ x1 := of_decide_eq_true c_10
      exact ml_ret rfl (rfl) (⟨rfl, by first | exact Or.inr ⟨vin_ge c_1 c_10, rfl⟩ | exact Or.inl ⟨vin_neg c_1, rfl⟩ | exact Or.inl ⟨vin_out hn c_10, rfl⟩⟩)
    · have c_10 : ¬ ((nI n) ≤ x1) := of_decide_eq_false c_10
      refine ml_st (S' := (14, [(0, .ref p), (1, .int x1), (2, .int x2), (3, .int x3)], [.ref p], M)) rfl rfl rfl ?_
      refine mo_get (S' := (17, [(0, .ref p), (1, .int x1), (2, .int x2), (3, .int x3)], [.ref (q 3)], M)) rfl hP.1 rfl rfl ?_
      refine ml_st (S' := (18, [(0, .ref p), (1, .int x1), (2, .int x2), (3, .int x3)], [.int x1, .ref (q 3)], M)) rfl rfl rfl ?_
      refine ml_st (S' := (19, [(0, .ref p), (1, .int x1), (2, .int x2), (3, .int x3)], [.int x2, .int x1, .ref (q 3)], M)) rfl rfl rfl ?_
      refine mo_ast (S' := (20, [(0, .ref p), (1, .int x1), (2, .int x2), (3, .int x3)], [], (up M (q 3) (ar .int n (upd (f 3) (Int32.toNatClampNeg x1) x2))))) rfl (hP.2.1 3 (by decide) (by decide)) (vin_ge c_1 c_10) rfl ?_
      have hP1 := hP.up (f' := upd (f 3) (Int32.toNatClampNeg x1) x2) hQ (i := 3) (by decide) (by decide)
      generalize hM1 : (up M (q 3) (ar .int n (upd (f 3) (Int32.toNatClampNeg x1) x2))) = M1 at hP1 ⊢
      refine ml_st (S' := (21, [(0, .ref p), (1, .int x1), (2, .int x2), (3, .int x3)], [.ref p], M1)) rfl rfl rfl ?_
      refine mo_get (S' := (24, [(0, .ref p), (1, .int x1), (2, .int x2), (3, .int x3)], [.ref (q 4)], M1)) rfl hP1.1 rfl rfl ?_
      refine ml_st (S' := (25, [(0, .ref p), (1, .int x1), (2, .int x2), (3, .int x3)], [.int x1, .ref (q 4)], M1)) rfl rfl rfl ?_
      refine ml_st (S' := (26, [(0, .ref p), (1, .int x1), (2, .int x2), (3, .int x3)], [.int x3, .int x1, .ref (q 4)], M1)) rfl rfl rfl ?_
      refine mo_ast (S' := (27, [], [], (up M1 (q 4) (ar .int n (upd (f 4) (Int32.toNatClampNeg x1) x3))))) rfl (hP1.2.1 4 (by decide) (by decide)) (vin_ge c_1 c_10) rfl ?_
      exact ml_ret rfl (rfl) (⟨rfl, by first | exact Or.inr ⟨vin_ge c_1 c_10, rfl⟩ | exact Or.inl ⟨vin_neg c_1, rfl⟩ | exact Or.inl ⟨vin_out hn c_10, rfl⟩⟩)
set_option maxHeartbeats 1000000 in
theorem ct_addCharacter {g : xe_G} {M : mi_H} {p : Nat} {size : Int32} {n m : Nat} {q : Nat → Nat} {f : Nat → Nat → Int32} {cc : Int32} {x1 : Int32} (hP : PL M p size n m q f cc) (h0 : 0 ≤ cc.toInt) (hne : p ≠ q 6) {d : Nat} (hd : 1 ≤ d) : mt (mT g) d 111 [.ref p, .int x1] M (fun v M' => v = none ∧ ((M' = M ∧ nI m ≤ cc) ∨ (¬ nI m ≤ cc ∧ M' = up (up M (q 6) (ar .char m (upd (f 6) (Int32.toNatClampNeg cc) (vp_nar .char ((Int32.toUInt32 x1 % 65536).toInt32))))) p (ob 7 [.int size, .ref (q 1), .ref (q 2), .ref (q 3), .ref (q 4), .ref (q 5), .ref (q 6), .int (cc + 1)])))) := by
  obtain ⟨d, rfl⟩ : ∃ e, d = e + 1 := ⟨d - 1, by omega⟩
  refine mt_in (b := mb_111 g) rfl rfl ?_
  show ml (mT g) d (mb_111 g).2 (0, [(0, .ref p), (1, .int x1)], [], M) _
  refine ml_st (S' := (1, [(0, .ref p), (1, .int x1)], [.ref p], M)) rfl rfl rfl ?_
  refine mo_get (S' := (4, [(0, .ref p), (1, .int x1)], [.int cc], M)) rfl hP.1 rfl rfl ?_
  refine ml_st (S' := (5, [(0, .ref p), (1, .int x1)], [.ref p, .int cc], M)) rfl rfl rfl ?_
  refine mo_get (S' := (8, [(0, .ref p), (1, .int x1)], [.ref (q 6), .int cc], M)) rfl hP.1 rfl rfl ?_
  refine mo_alen (S' := (9, [(0, .ref p), (1, .int x1)], [.int (nI m), .int cc], M)) rfl hP.2.2 rfl ?_
  refine ml_if2 (S1 := (33, [], [], M)) (S2 := (12, [(0, .ref p), (1, .int x1)], [], M)) rfl rfl rfl (fun c_9 => ?_) (fun c_9 => ?_)
  · have c_9 : (nI m) ≤ cc := of_decide_eq_true c_9
    exact ml_ret rfl (rfl) (⟨rfl, by first | exact Or.inr ⟨c_9, rfl⟩ | exact Or.inl ⟨rfl, c_9⟩⟩)
  · have c_9 : ¬ ((nI m) ≤ cc) := of_decide_eq_false c_9
    refine ml_st (S' := (13, [(0, .ref p), (1, .int x1)], [.ref p], M)) rfl rfl rfl ?_
    refine mo_get (S' := (16, [(0, .ref p), (1, .int x1)], [.ref (q 6)], M)) rfl hP.1 rfl rfl ?_
    refine ml_st (S' := (17, [(0, .ref p), (1, .int x1)], [.ref p, .ref (q 6)], M)) rfl rfl rfl ?_
    refine mo_get (S' := (20, [(0, .ref p), (1, .int x1)], [.int cc, .ref (q 6)], M)) rfl hP.1 rfl rfl ?_
    refine ml_st (S' := (21, [(0, .ref p), (1, .int x1)], [.int x1, .int cc, .ref (q 6)], M)) rfl rfl rfl ?_
    refine ml_st (S' := (22, [(0, .ref p), (1, .int x1)], [.int ((Int32.toUInt32 x1 % 65536).toInt32), .int cc, .ref (q 6)], M)) rfl rfl rfl ?_
    refine mo_ast (S' := (23, [(0, .ref p), (1, .int x1)], [], (up M (q 6) (ar .char m (upd (f 6) (Int32.toNatClampNeg cc) (vp_nar .char ((Int32.toUInt32 x1 % 65536).toInt32))))))) rfl hP.2.2 (vin_ge (nlt0 h0) c_9) rfl ?_
    have hp1 := up_eq (c := (ar .char m (upd (f 6) (Int32.toNatClampNeg cc) (vp_nar .char ((Int32.toUInt32 x1 % 65536).toInt32))))) hP.1 hne
    generalize hM1 : (up M (q 6) (ar .char m (upd (f 6) (Int32.toNatClampNeg cc) (vp_nar .char ((Int32.toUInt32 x1 % 65536).toInt32))))) = M1 at hp1 ⊢
    refine ml_st (S' := (24, [(0, .ref p), (1, .int x1)], [.ref p], M1)) rfl rfl rfl ?_
    refine ml_st (S' := (25, [(0, .ref p), (1, .int x1)], [.ref p, .ref p], M1)) rfl rfl rfl ?_
    refine mo_get (S' := (28, [(0, .ref p), (1, .int x1)], [.int cc, .ref p], M1)) rfl hp1 rfl rfl ?_
    refine ml_st (S' := (29, [(0, .ref p), (1, .int x1)], [.int 1, .int cc, .ref p], M1)) rfl rfl rfl ?_
    refine ml_st (S' := (30, [(0, .ref p), (1, .int x1)], [.int (cc + 1), .ref p], M1)) rfl rfl rfl ?_
    refine mo_put (S' := (33, [], [], (up M1 p (ob 7 [.int size, .ref (q 1), .ref (q 2), .ref (q 3), .ref (q 4), .ref (q 5), .ref (q 6), .int (cc + 1)])))) rfl hp1 rfl (by simp) rfl ?_
    exact ml_ret rfl (rfl) (⟨rfl, by first | exact Or.inr ⟨c_9, rfl⟩ | exact Or.inl ⟨rfl, c_9⟩⟩)

/-- from k on no entry has numbers -/
def TZ (M : mi_H) (f s : Nat) (k : Int32) : Prop := ∃ n f3 f4, M.1 f = some (ar .int n f3) ∧ M.1 s = some (ar .int n f4) ∧ ∀ j : Nat, k.toInt ≤ j → f3 j = 0 ∧ f4 j = 0
def TG (M : mi_H) (t : Nat) (k x : Int32) : Prop := ∀ n f1, M.1 t = some (ar .int n f1) → vp_in k n → f1 k.toNatClampNeg = x
theorem TZ.fr {M M' : mi_H} {f s : Nat} {k : Int32} (h : TZ M f s k) (h1 : M'.1 f = M.1 f) (h2 : M'.1 s = M.1 s) : TZ M' f s k := by
  obtain ⟨n, f3, f4, a, b, c⟩ := h
  exact ⟨n, f3, f4, h1.trans a, h2.trans b, c⟩
theorem TZ.le {M : mi_H} {f s : Nat} {k k' : Int32} (h : TZ M f s k) (hk : k.toInt ≤ k'.toInt) : TZ M f s k' := by
  obtain ⟨n, f3, f4, a, b, c⟩ := h
  exact ⟨n, f3, f4, a, b, fun j hj => c j (by omega)⟩
theorem ar_inj {ty : FieldType} {n n' : Nat} {f f' : Nat → Int32} (h : (some (ar ty n f) : Option mi_C) = some (ar ty n' f')) : n = n' ∧ f = f' := by
  simp only [ar, Option.some.injEq, Sum.inl.injEq, Prod.mk.injEq, true_and] at h
  refine ⟨h.1, funext fun i => ?_⟩
  have := congrFun h.2 i
  simpa using this
theorem toN {a : Int32} {n : Nat} (h : vp_in a n) : (a.toNatClampNeg : Int) = a.toInt := by
  have h0 : ¬ a < 0 := fun q => h (Or.inl q)
  exact (mi_nn a h0).symm
theorem tm_setTag {g : xe_G} {M : mi_H} {Y : yT} {p n m t tp f s sh ch : Nat} {x1 x2 x3 : Int32} (hW : WF g Y M) (hY0 : Y.1 p = some (7, [n, m, t, tp, f, s, sh, ch])) (hz : TZ M f s x1) {d : Nat} (hd : 1 ≤ d) : mt (mT g) d 136 [.ref p, .int x1, .int x2, .int x3] M (fun v M' => v = none ∧ st g Y M M' ∧ fr [t, tp] M M' ∧ TG M' t x1 x2) := by
  obtain ⟨size, n', m', q, ff, cc, hP, hT, hn, hm, hs, hc, e⟩ := hW.pool hY0
  simp only [List.cons.injEq, and_true] at e
  obtain ⟨rfl, rfl, rfl, rfl, rfl, rfl, rfl, rfl⟩ := e
  obtain ⟨hQ, hq⟩ := hW.qd hY0
  refine (ct_setTag hP hQ hn hd).mono (fun v M' h => ⟨h.1, ?_⟩)
  rcases h.2 with ⟨h1, rfl⟩ | ⟨h1, e⟩
  · refine ⟨st.rf hW, fr.rf, fun n0 f1 h2 h3 => ?_⟩
    obtain ⟨rfl, rfl⟩ := ar_inj ((hP.2.1 1 (by decide) (by decide)).symm.trans h2)
    exact absurd h3 h1
  · have hP1 := (hP.up (f' := upd (ff 1) x1.toNatClampNeg x2) hQ (i := 1) (by decide) (by decide)).up (f' := upd (ff 2) x1.toNatClampNeg x3) hQ (i := 2) (by decide) (by decide)
    rw [← e] at hP1
    have hF : fr [q 1, q 2] M M' := by
      rw [e]
      exact (fr.rf.up (by simp)).up (by simp)
    obtain ⟨n0, f3, f4, z1, z2, z3⟩ := hz
    obtain ⟨rfl, rfl⟩ := ar_inj ((hP.2.1 3 (by decide) (by decide)).symm.trans z1)
    obtain ⟨-, rfl⟩ := ar_inj ((hP.2.1 4 (by decide) (by decide)).symm.trans z2)
    refine ⟨hW.poolset hY0 (fun z h2 h3 => hF z ?_) (by rw [e]; rfl) hP1 ⟨hT.1, hT.2.1, fun k hk h4 => ?_⟩ hs hc, hF, fun n0 f1 h2 h3 => ?_⟩
    · simp only [List.mem_cons, List.not_mem_nil, or_false, not_or]
      exact ⟨h3 1 (by decide) (by decide), h3 2 (by decide) (by decide)⟩
    · by_cases ek : k = x1.toNatClampNeg
      · subst ek
        have hx := toN h1
        obtain ⟨w1, w2⟩ := z3 x1.toNatClampNeg (by omega)
        show 0 ≤ (ff 3 _).toInt ∧ 0 ≤ (ff 4 _).toInt ∧ (ff 3 _).toInt + (ff 4 _).toInt ≤ cc.toInt
        rw [w1, w2]
        have := hT.1
        have z0 : (0 : Int32).toInt = 0 := rfl
        omega
      · have : upd (ff 1) x1.toNatClampNeg x2 k = 1 := h4
        rw [upd_ne ek] at this
        exact hT.2.2 k hk this
    · obtain ⟨rfl, rfl⟩ := ar_inj ((hP1.2.1 1 (by decide) (by decide)).symm.trans h2)
      exact upd_at
theorem tm_setNumbers {g : xe_G} {M : mi_H} {Y : yT} {p n m t tp f s sh ch : Nat} {x1 x2 x3 : Int32} (hW : WF g Y M) (hY0 : Y.1 p = some (7, [n, m, t, tp, f, s, sh, ch])) (hz : (∃ tg : Int32, tg ≠ 1 ∧ TG M t x1 tg) ∨ ∃ cc : Int32, mi_gf M p 7 7 = some (.int cc) ∧ 0 ≤ x2.toInt ∧ 0 ≤ x3.toInt ∧ x2.toInt + x3.toInt ≤ cc.toInt) {d : Nat} (hd : 1 ≤ d) : mt (mT g) d 135 [.ref p, .int x1, .int x2, .int x3] M (fun v M' => v = none ∧ st g Y M M' ∧ fr [f, s] M M' ∧ ∀ k : Int32, x1.toInt < k.toInt → TZ M f s k → TZ M' f s k) := by
  obtain ⟨size, n', m', q, ff, cc, hP, hT, hn, hm, hs, hc, e⟩ := hW.pool hY0
  simp only [List.cons.injEq, and_true] at e
  obtain ⟨rfl, rfl, rfl, rfl, rfl, rfl, rfl, rfl⟩ := e
  obtain ⟨hQ, hq⟩ := hW.qd hY0
  refine (ct_setNumbers hP hQ hn hd).mono (fun v M' h => ⟨h.1, ?_⟩)
  rcases h.2 with ⟨h1, rfl⟩ | ⟨h1, e⟩
  · exact ⟨st.rf hW, fr.rf, fun _ _ h => h⟩
  · have hP1 := (hP.up (f' := upd (ff 3) x1.toNatClampNeg x2) hQ (i := 3) (by decide) (by decide)).up (f' := upd (ff 4) x1.toNatClampNeg x3) hQ (i := 4) (by decide) (by decide)
    rw [← e] at hP1
    have hF : fr [q 3, q 4] M M' := by
      rw [e]
      exact (fr.rf.up (by simp)).up (by simp)
    have hx := toN h1
    refine ⟨hW.poolset hY0 (fun z h2 h3 => hF z ?_) (by rw [e]; rfl) hP1 ⟨hT.1, hT.2.1, fun k hk h4 => ?_⟩ hs hc, hF, fun k hk h2 => ?_⟩
    · simp only [List.mem_cons, List.not_mem_nil, or_false, not_or]
      exact ⟨h3 3 (by decide) (by decide), h3 4 (by decide) (by decide)⟩
    · have h4 : ff 1 k = 1 := h4
      show 0 ≤ (upd (ff 3) x1.toNatClampNeg x2 k).toInt ∧ 0 ≤ (upd (ff 4) x1.toNatClampNeg x3 k).toInt ∧ (upd (ff 3) x1.toNatClampNeg x2 k).toInt + (upd (ff 4) x1.toNatClampNeg x3 k).toInt ≤ cc.toInt
      by_cases ek : k = x1.toNatClampNeg
      · subst ek
        rcases hz with ⟨tg, w1, w2⟩ | ⟨cc', w0, w1, w2, w3⟩
        · exact absurd ((w2 _ _ (hP.2.1 1 (by decide) (by decide)) h1).symm.trans h4) w1
        · have : mi_gf M p 7 7 = some (.int cc) := gf_ob hP.1 rfl
          rw [this] at w0
          cases w0
          rw [upd_at, upd_at]
          exact ⟨w1, w2, w3⟩
      · rw [upd_ne ek, upd_ne ek]
        exact hT.2.2 k hk h4
    · obtain ⟨n0, f3, f4, z1, z2, z3⟩ := h2
      obtain ⟨rfl, rfl⟩ := ar_inj ((hP.2.1 3 (by decide) (by decide)).symm.trans z1)
      obtain ⟨-, rfl⟩ := ar_inj ((hP.2.1 4 (by decide) (by decide)).symm.trans z2)
      refine ⟨_, _, _, hP1.2.1 3 (by decide) (by decide), hP1.2.1 4 (by decide) (by decide), fun j hj => ?_⟩
      show upd (ff 3) x1.toNatClampNeg x2 j = 0 ∧ upd (ff 4) x1.toNatClampNeg x3 j = 0
      have : j ≠ x1.toNatClampNeg := by omega
      rw [upd_ne this, upd_ne this]
      exact z3 j hj
theorem tm_addCharacter {g : xe_G} {M : mi_H} {Y : yT} {p n m t tp f s sh ch : Nat} {x1 cc : Int32} (hW : WF g Y M) (hY0 : Y.1 p = some (7, [n, m, t, tp, f, s, sh, ch])) (hcc : mi_gf M p 7 7 = some (.int cc)) {d : Nat} (hd : 1 ≤ d) : mt (mT g) d 111 [.ref p, .int x1] M (fun v M' => v = none ∧ st g Y M M' ∧ fr [p, ch] M M' ∧ ∃ c' : Int32, mi_gf M' p 7 7 = some (.int c') ∧ cc.toInt ≤ c'.toInt) := by
  obtain ⟨size, n', m', q, ff, cc0, hP, hT, hn, hm, hs, hc, e⟩ := hW.pool hY0
  simp only [List.cons.injEq, and_true] at e
  obtain ⟨rfl, rfl, rfl, rfl, rfl, rfl, rfl, rfl⟩ := e
  obtain ⟨hQ, hq⟩ := hW.qd hY0
  have hcc0 : mi_gf M p 7 7 = some (.int cc0) := gf_ob hP.1 rfl
  rw [hcc0] at hcc
  cases hcc
  have hne : p ≠ q 6 := fun e => by
    have := hP.2.2
    rw [← e, hP.1] at this
    simp [ob, ar] at this
  refine (ct_addCharacter hP hT.1 hne hd).mono (fun v M' h => ⟨h.1, ?_⟩)
  rcases h.2 with ⟨rfl, h1⟩ | ⟨h1, e⟩
  · exact ⟨st.rf hW, fr.rf, cc, hcc0, Int.le_refl _⟩
  · have h2 := i_nle h1
    rw [nI_val hm] at h2
    have e1 : (cc + 1).toInt = cc.toInt + 1 := i_add (by have : (1 : Int32).toInt = 1 := rfl; have := hT.1; omega) (by have : (1 : Int32).toInt = 1 := rfl; omega)
    have hF : fr [p, q 6] M M' := by
      rw [e]
      exact (fr.rf.up (by simp)).up (by simp)
    have hP1 : PL M' p size n m q (fun j => if j = 6 then upd (ff 6) cc.toNatClampNeg (vp_nar .char (Int32.toUInt32 x1 % 65536).toInt32) else ff j) (cc + 1) := by
      rw [e]
      refine ⟨up_at, fun j hj1 hj5 => ?_, up_eq ?_ hne.symm⟩
      · have : j ≠ 6 := by omega
        simp only [this, if_false]
        have hj := hP.2.1 j hj1 hj5
        refine up_eq (up_eq hj (hQ j 6 hj1 (by omega) (by omega) (by omega) this)) (ob_ne_ar hP.1 hj)
      · simp only [if_true]
        exact up_at
    refine ⟨hW.poolset hY0 (fun z h3 h4 => hF z ?_) (by rw [e]; rfl) hP1 ⟨by rw [e1]; have := hT.1; omega, by rw [e1]; omega, fun k hk h4 => ?_⟩ hs (fun i => ?_), hF, cc + 1, gf_ob hP1.1 rfl, by rw [e1]; omega⟩
    · simp only [List.mem_cons, List.not_mem_nil, or_false, not_or]
      exact ⟨h3, h4 6 (by decide) (by decide)⟩
    · obtain ⟨w1, w2, w3⟩ := hT.2.2 k hk h4
      exact ⟨w1, w2, by rw [e1]; show (ff 3 k).toInt + (ff 4 k).toInt ≤ _; omega⟩
    · show ch16 (upd (ff 6) cc.toNatClampNeg _ i)
      by_cases ei : i = cc.toNatClampNeg
      · subst ei
        rw [upd_at]
        exact ch16_nar _
      · rw [upd_ne ei]
        exact hc i
end
section
/-! the reader (my own text) -/
section MIR
variable {g : xe_G} {Y : yT} {M : mi_H}
theorem WF.rd {r c b vd n : Nat} (h : WF g Y M) (hY : Y.1 r = some (9, [c, b, vd, n])) : ∃ a : Int32, mi_gf M r 9 3 = some (.int a) ∧ 0 ≤ a.toInt ∧ a.toInt ≤ n := by
  obtain ⟨l, h1, -, -, -, x, h2, h3⟩ := (h.1 r 9 _ hY).obj (by decide)
  exact ⟨x, gf_ob h1 h2, h3⟩
theorem WF.rdb {r c b vd n : Nat} {a : Int32} (h : WF g Y M) (hY : Y.1 r = some (9, [c, b, vd, n])) (hg : mi_gf M r 9 3 = some (.int a)) : 0 ≤ a.toInt ∧ a.toInt ≤ n := by
  obtain ⟨x, h1, h2⟩ := h.rd hY
  rw [h1] at hg
  cases hg
  exact h2
theorem WF.bn {b da n : Nat} (h : WF g Y M) (hY : Y.1 b = some (1, [da, n])) : n < 1073741824 := (h.bytes hY).1.2.2
def ix (n : Nat) (f : Nat → Int32) (x a : Int32) : Int32 := if x = 1 then sp_u1 n f a else if x = 2 then sp_u2 n f a else sp_u4 n f a
/-- what taking an item leaves: in the good case the reader's place and item -/
def qT (g : xe_G) (Y : yT) (r vd da n : Nat) (a x1 : Int32) (M : mi_H) : Option Value → mi_H → Prop := fun v M' => (∃ x : Int32, v = some (.int x) ∧ (x = 0 ∨ x = 1 ∧ a.toInt + x1.toInt ≤ n ∧ mi_gf M' r 9 3 = some (.int (a + x1)) ∧ mi_gf M' r 9 4 = some (.int (ix n (Y.2 da) x1 a)))) ∧ sf g Y [r, vd] M M'
theorem le_room {a x : Int32} {n : Nat} (hn : n < 1073741824) (h0 : 0 ≤ a.toInt) (h1 : a.toInt ≤ n) (hx : 0 ≤ x.toInt) (h : x ≤ nI n - a) : a.toInt + x.toInt ≤ n ∧ (a + x).toInt = a.toInt + x.toInt := by
  have h2 := i_le h
  rw [i_sub (by rw [nI_val hn]; omega) (by rw [nI_val hn]; omega), nI_val hn] at h2
  exact ⟨by omega, i_add (by omega) (by omega)⟩
theorem xtr_at {l : List Value} {c b vd n : Nat} {x : Int32} (hl : 3 < l.length) (h0 : 0 ≤ x.toInt) (h1 : x.toInt ≤ n) : xtr Y M (l.set 3 (.int x)) 9 [c, b, vd, n] := ⟨x, by rw [List.getElem?_set_self hl], h0, h1⟩
/-- attributes: one, several -/
def a1 (f : Nat → Int32) (n : Nat) (a a' : Int32) : Prop := 0 ≤ a.toInt ∧ a.toInt + 6 ≤ n ∧ 0 ≤ (sp_u4 n f (a + 2)).toInt ∧ a.toInt + 6 + (sp_u4 n f (a + 2)).toInt ≤ n ∧ a' = a + 6 + sp_u4 n f (a + 2)
def an (f : Nat → Int32) (n : Nat) : Nat → Int32 → Int32 → Prop
  | 0, a, a' => a' = a
  | k + 1, a, a' => ∃ b, an f n k a b ∧ a1 f n b a'
theorem an.aw {f : Nat → Int32} {n : Nat} : ∀ {k j : Nat} {a a' : Int32}, an f n k a a' → AW f n j a' → AW f n (k + j) a
  | 0, j, a, a', h, h' => by
    cases h
    rw [Nat.zero_add]
    exact h'
  | k + 1, j, a, a', ⟨b, h1, h2, h3, h4, h5, h6⟩, h' => by
    subst h6
    have := an.aw h1 (j := j + 1) ⟨h2, h3, h4, h5, h'⟩
    rwa [show k + 1 + j = k + (j + 1) by omega]
theorem an.all {f : Nat → Int32} {n k : Nat} {a a' : Int32} (h : an f n k a a') (h0 : 0 ≤ a'.toInt) (h1 : a'.toInt ≤ n) : AW f n k a := an.aw (j := 0) h ⟨h0, h1⟩
theorem u2_pos {n : Nat} {f : Nat → Int32} {a : Int32} : 0 ≤ (sp_u2 n f a).toInt := by
  have key : ∀ x y : Int32, 0 ≤ (((x &&& 255) <<< (8 &&& 31)) ||| (y &&& 255)).toInt := by
    intro x y
    have : (((x &&& 255) <<< ((8 : Int32) &&& 31)) ||| (y &&& 255)).toBitVec.msb = false := by
      show (((x.toBitVec &&& 255#32) <<< (8 : Nat)) ||| (y.toBitVec &&& 255#32)).msb = false
      simp [BitVec.msb_eq_getLsbD_last]
    have h2 := BitVec.toInt_eq_toNat_of_msb this
    show 0 ≤ (((x &&& 255) <<< ((8 : Int32) &&& 31)) ||| (y &&& 255)).toBitVec.toInt
    rw [h2]
    omega
  unfold sp_u2
  split
  · decide
  · split
    · exact key _ _
    · decide
end MIR
end
section
/-! items are taken (laid by wip/p2/c49.py) -/
theorem goesOn_lt {n : Nat} {f : Nat → Int32} {a e : Int32} (h : ¬ sp_goesOn n f a e = 0) : a < e := by
  unfold sp_goesOn at h
  repeat' (first | assumption | exact Int32.not_le.mp (by assumption) | exact absurd rfl h | split at h)

set_option maxHeartbeats 2000000 in
theorem tr_takes {g : xe_G} {M : mi_H} {Y : yT} {r c b vd n da : Nat} {x1 : Int32} {a0 : Int32} (hW : WF g Y M) (hY0 : Y.1 r = some (9, [c, b, vd, n])) (hY1 : Y.1 c = some (3, [b, da, n])) (hY2 : Y.1 b = some (1, [da, n])) (hY3 : Y.1 vd = some (10, [])) (hr3 : mi_gf M r 9 3 = some (.int a0)) (hx : 0 ≤ x1.toInt) {d : Nat} (hd : 2 ≤ d) : mt (mT g) d 159 [.ref r, .int x1] M (qT g Y r vd da n a0 x1 M) := by
  obtain ⟨d, rfl⟩ : ∃ e, d = e + 1 := ⟨d - 1, by omega⟩
  have hS : sf g Y [r, vd] M M := sf.rf hW
  refine mt_in (b := mb_159 g) rfl rfl ?_
  show ml (mT g) d (mb_159 g).2 (0, [(0, .ref r), (1, .int x1)], [], M) _
  obtain ⟨h0, h1⟩ := hW.rdb hY0 hr3
  have hn := hW.bn hY2
  refine ml_blk 2 (S' := (2, [(0, .ref r), (1, .int x1)], [.ref r, .int x1], M)) rfl ?_
  refine tg_ref (S' := (5, [(0, .ref r), (1, .int x1)], [.ref b, .int x1], M)) rfl hS.1.1 hY0 (by decide) rfl rfl ?_
  refine ml_call (a := [.ref b]) (rest := [.int x1]) rfl (okc_t rfl rfl rfl hS.1.1 hY2 (by decide)) rfl rfl (ct_size (hS.1.1.bytes hY2).1 (by omega)) (fun v1 M2 h3 => ?_)
  obtain ⟨rfl, h3⟩ := h3
  rw [h3]
  show ml _ _ _ (8, [(0, .ref r), (1, .int x1)], [.int (nI n), .int x1], M) _
  refine ml_st (S' := (9, [(0, .ref r), (1, .int x1)], [.ref r, .int (nI n), .int x1], M)) rfl rfl rfl ?_
  refine ml_get (S' := (12, [(0, .ref r), (1, .int x1)], [.int a0, .int (nI n), .int x1], M)) rfl hr3 rfl ?_
  refine ml_st (S' := (13, [(0, .ref r), (1, .int x1)], [.int ((nI n) - a0), .int x1], M)) rfl rfl rfl ?_
  refine ml_if2 (S1 := (29, [(0, .ref r), (1, .int x1)], [], M)) (S2 := (16, [(0, .ref r), (1, .int x1)], [], M)) rfl rfl rfl (fun c_13 => ?_) (fun c_13 => ?_)
  · have c_13 : x1 ≤ ((nI n) - a0) := of_decide_eq_true c_13
    refine ml_blk 2 (S' := (31, [(0, .ref r), (1, .int x1)], [.int 1, .int x1], M)) rfl ?_
    refine ml_if2 (S1 := (52, [(0, .ref r), (1, .int x1)], [], M)) (S2 := (34, [(0, .ref r), (1, .int x1)], [], M)) rfl rfl rfl (fun c_31 => ?_) (fun c_31 => ?_)
    · have c_31 : ¬ x1 = 1 := of_decide_eq_true c_31
      refine ml_blk 3 (S' := (55, [(0, .ref r), (1, .int x1)], [.int 2, .int x1, .ref r], M)) rfl ?_
      refine ml_if2 (S1 := (72, [(0, .ref r), (1, .int x1)], [.ref r], M)) (S2 := (58, [(0, .ref r), (1, .int x1)], [.ref r], M)) rfl rfl rfl (fun c_55 => ?_) (fun c_55 => ?_)
      · have c_55 : ¬ x1 = 2 := of_decide_eq_true c_55
        refine ml_st (S' := (73, [(0, .ref r), (1, .int x1)], [.ref r, .ref r], M)) rfl rfl rfl ?_
        refine tg_ref (S' := (76, [(0, .ref r), (1, .int x1)], [.ref b, .ref r], M)) rfl hS.1.1 hY0 (by decide) rfl rfl ?_
        refine ml_st (S' := (77, [(0, .ref r), (1, .int x1)], [.ref r, .ref b, .ref r], M)) rfl rfl rfl ?_
        refine ml_get (S' := (80, [(0, .ref r), (1, .int x1)], [.int a0, .ref b, .ref r], M)) rfl hr3 rfl ?_
        refine ml_call (a := [.ref b, .int a0]) (rest := [.ref r]) rfl (okc_t rfl rfl rfl hS.1.1 hY2 (by decide)) rfl rfl (ct_u4 (hS.1.1.bytes hY2).1 (by omega)) (fun v4 M5 h6 => ?_)
        obtain ⟨rfl, h6⟩ := h6
        rw [h6]
        show ml _ _ _ (83, [(0, .ref r), (1, .int x1)], [.int (sp_u4 n (Y.2 da) a0), .ref r], M) _
        refine tp_put rfl hS.1 hY0 (by decide) rfl (⟨_, rfl⟩) rfl rfl (fun M7 hS8 f9 => ?_)
        have hS10 := hS.put hS8 f9 (by simp)
        have g11 := f9.2.1 3 _ (by decide) hr3
        show ml _ _ _ (86, [(0, .ref r), (1, .int x1)], [], M7) _
        refine ml_blk 2 (S' := (88, [(0, .ref r), (1, .int x1)], [.ref r, .ref r], M7)) rfl ?_
        refine ml_get (S' := (91, [(0, .ref r), (1, .int x1)], [.int a0, .ref r], M7)) rfl g11 rfl ?_
        refine ml_blk 2 (S' := (93, [(0, .ref r), (1, .int x1)], [.int (a0 + x1), .ref r], M7)) rfl ?_
        refine tp_putx rfl hS10.1 hY0 (by decide) rfl (⟨_, rfl⟩) rfl (fun l hl _ => xtr_at hl (by rw [(le_room hn h0 h1 hx c_13).2]; omega) (by rw [(le_room hn h0 h1 hx c_13).2]; exact (le_room hn h0 h1 hx c_13).1)) (fun M12 hS13 f14 => ?_)
        have hS15 := hS10.put hS13 f14 (by simp)
        have g16 := f14.2.1 4 _ (by decide) f9.2.2.1
        show ml _ _ _ (96, [(0, .ref r), (1, .int x1)], [], M12) _
        refine ml_st (S' := (97, [(0, .ref r), (1, .int x1)], [.int 1], M12)) rfl rfl rfl ?_
        exact ml_ret rfl (r_z (Or.inr rfl)) (⟨⟨_, rfl, Or.inr ⟨rfl, (le_room hn h0 h1 hx c_13).1, f14.2.2.1, by rw [ix]; first | (rw [if_pos (Decidable.not_not.mp c_31)]; exact g16) | (rw [if_neg c_31, if_pos (Decidable.not_not.mp c_55)]; exact g16) | (rw [if_neg c_31, if_neg c_55]; exact g16)⟩⟩, hS15⟩)
      · have c_55 : ¬ (¬ x1 = 2) := of_decide_eq_false c_55
        refine ml_st (S' := (59, [(0, .ref r), (1, .int x1)], [.ref r, .ref r], M)) rfl rfl rfl ?_
        refine tg_ref (S' := (62, [(0, .ref r), (1, .int x1)], [.ref b, .ref r], M)) rfl hS.1.1 hY0 (by decide) rfl rfl ?_
        refine ml_st (S' := (63, [(0, .ref r), (1, .int x1)], [.ref r, .ref b, .ref r], M)) rfl rfl rfl ?_
        refine ml_get (S' := (66, [(0, .ref r), (1, .int x1)], [.int a0, .ref b, .ref r], M)) rfl hr3 rfl ?_
        refine ml_call (a := [.ref b, .int a0]) (rest := [.ref r]) rfl (okc_t rfl rfl rfl hS.1.1 hY2 (by decide)) rfl rfl (ct_u2 (hS.1.1.bytes hY2).1 (by omega)) (fun v17 M18 h19 => ?_)
        obtain ⟨rfl, h19⟩ := h19
        rw [h19]
        show ml _ _ _ (69, [(0, .ref r), (1, .int x1)], [.int (sp_u2 n (Y.2 da) a0), .ref r], M) _
        refine ml_st (S' := (83, [(0, .ref r), (1, .int x1)], [.int (sp_u2 n (Y.2 da) a0), .ref r], M)) rfl rfl rfl ?_
        refine tp_put rfl hS.1 hY0 (by decide) rfl (⟨_, rfl⟩) rfl rfl (fun M20 hS21 f22 => ?_)
        have hS23 := hS.put hS21 f22 (by simp)
        have g24 := f22.2.1 3 _ (by decide) hr3
        show ml _ _ _ (86, [(0, .ref r), (1, .int x1)], [], M20) _
        refine ml_blk 2 (S' := (88, [(0, .ref r), (1, .int x1)], [.ref r, .ref r], M20)) rfl ?_
        refine ml_get (S' := (91, [(0, .ref r), (1, .int x1)], [.int a0, .ref r], M20)) rfl g24 rfl ?_
        refine ml_blk 2 (S' := (93, [(0, .ref r), (1, .int x1)], [.int (a0 + x1), .ref r], M20)) rfl ?_
        refine tp_putx rfl hS23.1 hY0 (by decide) rfl (⟨_, rfl⟩) rfl (fun l hl _ => xtr_at hl (by rw [(le_room hn h0 h1 hx c_13).2]; omega) (by rw [(le_room hn h0 h1 hx c_13).2]; exact (le_room hn h0 h1 hx c_13).1)) (fun M25 hS26 f27 => ?_)
        have hS28 := hS23.put hS26 f27 (by simp)
        have g29 := f27.2.1 4 _ (by decide) f22.2.2.1
        show ml _ _ _ (96, [(0, .ref r), (1, .int x1)], [], M25) _
        refine ml_st (S' := (97, [(0, .ref r), (1, .int x1)], [.int 1], M25)) rfl rfl rfl ?_
        exact ml_ret rfl (r_z (Or.inr rfl)) (⟨⟨_, rfl, Or.inr ⟨rfl, (le_room hn h0 h1 hx c_13).1, f27.2.2.1, by rw [ix]; first | (rw [if_pos (Decidable.not_not.mp c_31)]; exact g29) | (rw [if_neg c_31, if_pos (Decidable.not_not.mp c_55)]; exact g29) | (rw [if_neg c_31, if_neg c_55]; exact g29)⟩⟩, hS28⟩)
    · have c_31 : ¬ (¬ x1 = 1) := of_decide_eq_false c_31
      refine ml_blk 2 (S' := (36, [(0, .ref r), (1, .int x1)], [.ref r, .ref r], M)) rfl ?_
      refine tg_ref (S' := (39, [(0, .ref r), (1, .int x1)], [.ref b, .ref r], M)) rfl hS.1.1 hY0 (by decide) rfl rfl ?_
      refine ml_st (S' := (40, [(0, .ref r), (1, .int x1)], [.ref r, .ref b, .ref r], M)) rfl rfl rfl ?_
      refine ml_get (S' := (43, [(0, .ref r), (1, .int x1)], [.int a0, .ref b, .ref r], M)) rfl hr3 rfl ?_
      refine ml_call (a := [.ref b, .int a0]) (rest := [.ref r]) rfl (okc_t rfl rfl rfl hS.1.1 hY2 (by decide)) rfl rfl (ct_u1 (hS.1.1.bytes hY2).1 (by omega)) (fun v30 M31 h32 => ?_)
      obtain ⟨rfl, h32⟩ := h32
      rw [h32]
      show ml _ _ _ (46, [(0, .ref r), (1, .int x1)], [.int (sp_u1 n (Y.2 da) a0), .ref r], M) _
      refine tp_put rfl hS.1 hY0 (by decide) rfl (⟨_, rfl⟩) rfl rfl (fun M33 hS34 f35 => ?_)
      have hS36 := hS.put hS34 f35 (by simp)
      have g37 := f35.2.1 3 _ (by decide) hr3
      show ml _ _ _ (49, [(0, .ref r), (1, .int x1)], [], M33) _
      refine ml_st (S' := (86, [(0, .ref r), (1, .int x1)], [], M33)) rfl rfl rfl ?_
      refine ml_blk 2 (S' := (88, [(0, .ref r), (1, .int x1)], [.ref r, .ref r], M33)) rfl ?_
      refine ml_get (S' := (91, [(0, .ref r), (1, .int x1)], [.int a0, .ref r], M33)) rfl g37 rfl ?_
      refine ml_blk 2 (S' := (93, [(0, .ref r), (1, .int x1)], [.int (a0 + x1), .ref r], M33)) rfl ?_
      refine tp_putx rfl hS36.1 hY0 (by decide) rfl (⟨_, rfl⟩) rfl (fun l hl _ => xtr_at hl (by rw [(le_room hn h0 h1 hx c_13).2]; omega) (by rw [(le_room hn h0 h1 hx c_13).2]; exact (le_room hn h0 h1 hx c_13).1)) (fun M38 hS39 f40 => ?_)
      have hS41 := hS36.put hS39 f40 (by simp)
      have g42 := f40.2.1 4 _ (by decide) f35.2.2.1
      show ml _ _ _ (96, [(0, .ref r), (1, .int x1)], [], M38) _
      refine ml_st (S' := (97, [(0, .ref r), (1, .int x1)], [.int 1], M38)) rfl rfl rfl ?_
      exact ml_ret rfl (r_z (Or.inr rfl)) (⟨⟨_, rfl, Or.inr ⟨rfl, (le_room hn h0 h1 hx c_13).1, f40.2.2.1, by rw [ix]; first | (rw [if_pos (Decidable.not_not.mp c_31)]; exact g42) | (rw [if_neg c_31, if_pos (Decidable.not_not.mp c_55)]; exact g42) | (rw [if_neg c_31, if_neg c_55]; exact g42)⟩⟩, hS41⟩)
  · have c_13 : ¬ (x1 ≤ ((nI n) - a0)) := of_decide_eq_false c_13
    refine ml_st (S' := (17, [(0, .ref r), (1, .int x1)], [.ref r], M)) rfl rfl rfl ?_
    refine tg_ref (S' := (20, [(0, .ref r), (1, .int x1)], [.ref vd], M)) rfl hS.1.1 hY0 (by decide) rfl rfl ?_
    refine ml_blk 2 (S' := (22, [(0, .ref r), (1, .int x1)], [.ref r, .int 1, .ref vd], M)) rfl ?_
    refine ml_get (S' := (25, [(0, .ref r), (1, .int x1)], [.int a0, .int 1, .ref vd], M)) rfl hr3 rfl ?_
    refine ml_call (a := [.ref vd, .int 1, .int a0]) (rest := []) rfl (okc_t rfl rfl rfl hS.1.1 hY3 (by decide)) rfl rfl (tw_Ve_wrong hS.1.1 hY3 (by omega)) (fun v43 M44 h45 => ?_)
    obtain ⟨rfl, h45⟩ := h45
    have g47 := h45.2.gf (nin_cons (ykne hY0 hY3 (by decide)) nin_nil) hr3
    have hS48 := hS.tr h45 (by simp)
    show ml _ _ _ (28, [(0, .ref r), (1, .int x1)], [.int 0], M44) _
    exact ml_ret rfl (r_z (Or.inl rfl)) (⟨⟨_, rfl, Or.inl rfl⟩, hS48⟩)
set_option maxHeartbeats 2000000 in
theorem tr_takesHead {g : xe_G} {M : mi_H} {Y : yT} {r c b vd n da : Nat}  (hW : WF g Y M) (hY0 : Y.1 r = some (9, [c, b, vd, n])) (hY1 : Y.1 c = some (3, [b, da, n])) (hY2 : Y.1 b = some (1, [da, n])) (hY3 : Y.1 vd = some (10, [])) {d : Nat} (hd : 3 ≤ d) : mt (mT g) d 165 [.ref r] M (qZ g Y M) := by
  obtain ⟨d, rfl⟩ : ∃ e, d = e + 1 := ⟨d - 1, by omega⟩
  have hS : st g Y M M := st.rf hW
  refine mt_in (b := mb_165 g) rfl rfl ?_
  show ml (mT g) d (mb_165 g).2 (0, [(0, .ref r)], [], M) _
  refine ml_blk 2 (S' := (2, [(0, .ref r)], [.int 4, .ref r], M)) rfl ?_
  obtain ⟨u1, g2, -⟩ := hS.1.rd hY0
  refine ml_call (a := [.ref r, .int 4]) (rest := []) rfl (okc_t rfl rfl rfl hS.1 hY0 (by decide)) rfl rfl (tr_takes hS.1 hY0 hY1 hY2 hY3 g2 (by decide) (by omega)) (fun v3 M4 h5 => ?_)
  obtain ⟨⟨u6, rfl, z7⟩, h5⟩ := h5
  have hS8 := hS.tr h5.1
  show ml _ _ _ (5, [(0, .ref r)], [.int u6], M4) _
  refine ml_if (S1 := (10, [(0, .ref r)], [], M4)) (S2 := (8, [(0, .ref r)], [], M4)) rfl rfl rfl (fun c_5 => ?_) (fun c_5 => ?_)
  · have c_5 : ¬ u6 = 0 := of_decide_eq_true c_5
    refine ml_st (S' := (11, [(0, .ref r)], [.ref r], M4)) rfl rfl rfl ?_
    refine tg_int rfl hS8.1 hY0 (by decide) rfl (fun u9 g10 => ?_)
    show ml _ _ _ (14, [(0, .ref r)], [.int u9], M4) _
    refine ml_st (S' := (16, [(0, .ref r)], [.int (-889275714), .int u9], M4)) rfl rfl rfl ?_
    refine ml_if2 (S1 := (29, [(0, .ref r)], [], M4)) (S2 := (19, [(0, .ref r)], [], M4)) rfl rfl rfl (fun c_16 => ?_) (fun c_16 => ?_)
    · have c_16 : u9 = (-889275714) := of_decide_eq_true c_16
      refine ml_blk 2 (S' := (31, [(0, .ref r)], [.int 2, .ref r], M4)) rfl ?_
      obtain ⟨u11, g12, -⟩ := hS8.1.rd hY0
      refine ml_call (a := [.ref r, .int 2]) (rest := []) rfl (okc_t rfl rfl rfl hS8.1 hY0 (by decide)) rfl rfl (tr_takes hS8.1 hY0 hY1 hY2 hY3 g12 (by decide) (by omega)) (fun v13 M14 h15 => ?_)
      obtain ⟨⟨u16, rfl, z17⟩, h15⟩ := h15
      have hS18 := hS8.tr h15.1
      show ml _ _ _ (34, [(0, .ref r)], [.int u16], M14) _
      refine ml_if (S1 := (39, [(0, .ref r)], [], M14)) (S2 := (37, [(0, .ref r)], [], M14)) rfl rfl rfl (fun c_34 => ?_) (fun c_34 => ?_)
      · have c_34 : ¬ u16 = 0 := of_decide_eq_true c_34
        refine ml_st (S' := (40, [(0, .ref r)], [.ref r], M14)) rfl rfl rfl ?_
        refine tg_ref (S' := (43, [(0, .ref r)], [.ref c], M14)) rfl hS18.1 hY0 (by decide) rfl rfl ?_
        refine ml_st (S' := (44, [(0, .ref r)], [.ref r, .ref c], M14)) rfl rfl rfl ?_
        refine tg_int rfl hS18.1 hY0 (by decide) rfl (fun u19 g20 => ?_)
        show ml _ _ _ (47, [(0, .ref r)], [.int u19, .ref c], M14) _
        refine tp_put rfl hS18 hY1 (by decide) rfl (⟨_, rfl⟩) rfl rfl (fun M21 hS22 f23 => ?_)
        show ml _ _ _ (50, [(0, .ref r)], [], M21) _
        refine ml_blk 2 (S' := (52, [(0, .ref r)], [.int 2, .ref r], M21)) rfl ?_
        obtain ⟨u24, g25, -⟩ := hS22.1.rd hY0
        refine ml_call (a := [.ref r, .int 2]) (rest := []) rfl (okc_t rfl rfl rfl hS22.1 hY0 (by decide)) rfl rfl (tr_takes hS22.1 hY0 hY1 hY2 hY3 g25 (by decide) (by omega)) (fun v26 M27 h28 => ?_)
        obtain ⟨⟨u29, rfl, z30⟩, h28⟩ := h28
        have hS31 := hS22.tr h28.1
        show ml _ _ _ (55, [(0, .ref r)], [.int u29], M27) _
        refine ml_if (S1 := (60, [(0, .ref r)], [], M27)) (S2 := (58, [(0, .ref r)], [], M27)) rfl rfl rfl (fun c_55 => ?_) (fun c_55 => ?_)
        · have c_55 : ¬ u29 = 0 := of_decide_eq_true c_55
          refine ml_st (S' := (61, [(0, .ref r)], [.ref r], M27)) rfl rfl rfl ?_
          refine tg_ref (S' := (64, [(0, .ref r)], [.ref c], M27)) rfl hS31.1 hY0 (by decide) rfl rfl ?_
          refine ml_st (S' := (65, [(0, .ref r)], [.ref r, .ref c], M27)) rfl rfl rfl ?_
          refine tg_int rfl hS31.1 hY0 (by decide) rfl (fun u32 g33 => ?_)
          show ml _ _ _ (68, [(0, .ref r)], [.int u32, .ref c], M27) _
          refine tp_put rfl hS31 hY1 (by decide) rfl (⟨_, rfl⟩) rfl rfl (fun M34 hS35 f36 => ?_)
          show ml _ _ _ (71, [(0, .ref r)], [], M34) _
          refine ml_st (S' := (72, [(0, .ref r)], [.ref r], M34)) rfl rfl rfl ?_
          refine tg_int rfl hS35.1 hY0 (by decide) rfl (fun u37 g38 => ?_)
          show ml _ _ _ (75, [(0, .ref r)], [.int u37], M34) _
          refine ml_st (S' := (77, [(0, .ref r)], [.int 45, .int u37], M34)) rfl rfl rfl ?_
          refine ml_if2 (S1 := (108, [(0, .ref r)], [], M34)) (S2 := (80, [(0, .ref r)], [], M34)) rfl rfl rfl (fun c_77 => ?_) (fun c_77 => ?_)
          · have c_77 : u37 < 45 := of_decide_eq_true c_77
            refine ml_st (S' := (109, [(0, .ref r)], [.ref r], M34)) rfl rfl rfl ?_
            refine tg_ref (S' := (112, [(0, .ref r)], [.ref vd], M34)) rfl hS35.1 hY0 (by decide) rfl rfl ?_
            refine ml_blk 2 (S' := (114, [(0, .ref r)], [.int 4, .int 3, .ref vd], M34)) rfl ?_
            refine ml_call (a := [.ref vd, .int 3, .int 4]) (rest := []) rfl (okc_t rfl rfl rfl hS35.1 hY3 (by decide)) rfl rfl (tw_Ve_wrong hS35.1 hY3 (by omega)) (fun v39 M40 h41 => ?_)
            obtain ⟨rfl, h41⟩ := h41
            have hS43 := hS35.tr h41.1
            show ml _ _ _ (117, [(0, .ref r)], [.int 0], M40) _
            exact ml_ret rfl (r_z (Or.inl rfl)) (⟨⟨_, rfl, Or.inl rfl⟩, hS43⟩)
          · have c_77 : ¬ (u37 < 45) := of_decide_eq_false c_77
            refine ml_st (S' := (81, [(0, .ref r)], [.ref r], M34)) rfl rfl rfl ?_
            refine ml_get (S' := (84, [(0, .ref r)], [.int u37], M34)) rfl g38 rfl ?_
            refine ml_st (S' := (86, [(0, .ref r)], [.int 61, .int u37], M34)) rfl rfl rfl ?_
            refine ml_if2 (S1 := (108, [(0, .ref r)], [], M34)) (S2 := (89, [(0, .ref r)], [], M34)) rfl rfl rfl (fun c_86 => ?_) (fun c_86 => ?_)
            · have c_86 : 61 < u37 := of_decide_eq_true c_86
              refine ml_st (S' := (109, [(0, .ref r)], [.ref r], M34)) rfl rfl rfl ?_
              refine tg_ref (S' := (112, [(0, .ref r)], [.ref vd], M34)) rfl hS35.1 hY0 (by decide) rfl rfl ?_
              refine ml_blk 2 (S' := (114, [(0, .ref r)], [.int 4, .int 3, .ref vd], M34)) rfl ?_
              refine ml_call (a := [.ref vd, .int 3, .int 4]) (rest := []) rfl (okc_t rfl rfl rfl hS35.1 hY3 (by decide)) rfl rfl (tw_Ve_wrong hS35.1 hY3 (by omega)) (fun v44 M45 h46 => ?_)
              obtain ⟨rfl, h46⟩ := h46
              have hS48 := hS35.tr h46.1
              show ml _ _ _ (117, [(0, .ref r)], [.int 0], M45) _
              exact ml_ret rfl (r_z (Or.inl rfl)) (⟨⟨_, rfl, Or.inl rfl⟩, hS48⟩)
            · have c_86 : ¬ (61 < u37) := of_decide_eq_false c_86
              refine ml_st (S' := (90, [(0, .ref r)], [.ref r], M34)) rfl rfl rfl ?_
              refine ml_get (S' := (93, [(0, .ref r)], [.int u37], M34)) rfl g38 rfl ?_
              refine ml_st (S' := (95, [(0, .ref r)], [.int 56, .int u37], M34)) rfl rfl rfl ?_
              refine ml_if2 (S1 := (118, [], [], M34)) (S2 := (98, [(0, .ref r)], [], M34)) rfl rfl rfl (fun c_95 => ?_) (fun c_95 => ?_)
              · have c_95 : u37 < 56 := of_decide_eq_true c_95
                refine ml_st (S' := (119, [], [.int 1], M34)) rfl rfl rfl ?_
                exact ml_ret rfl (r_z (Or.inr rfl)) (⟨⟨_, rfl, Or.inr rfl⟩, hS35⟩)
              · have c_95 : ¬ (u37 < 56) := of_decide_eq_false c_95
                refine ml_st (S' := (99, [(0, .ref r)], [.ref r], M34)) rfl rfl rfl ?_
                refine tg_ref (S' := (102, [(0, .ref r)], [.ref c], M34)) rfl hS35.1 hY0 (by decide) rfl rfl ?_
                refine tg_int rfl hS35.1 hY1 (by decide) rfl (fun u49 g50 => ?_)
                show ml _ _ _ (105, [(0, .ref r)], [.int u49], M34) _
                refine ml_if (S1 := (118, [], [], M34)) (S2 := (108, [(0, .ref r)], [], M34)) rfl rfl rfl (fun c_105 => ?_) (fun c_105 => ?_)
                · have c_105 : u49 = 0 := of_decide_eq_true c_105
                  refine ml_st (S' := (119, [], [.int 1], M34)) rfl rfl rfl ?_
                  exact ml_ret rfl (r_z (Or.inr rfl)) (⟨⟨_, rfl, Or.inr rfl⟩, hS35⟩)
                · have c_105 : ¬ (u49 = 0) := of_decide_eq_false c_105
                  refine ml_st (S' := (109, [(0, .ref r)], [.ref r], M34)) rfl rfl rfl ?_
                  refine tg_ref (S' := (112, [(0, .ref r)], [.ref vd], M34)) rfl hS35.1 hY0 (by decide) rfl rfl ?_
                  refine ml_blk 2 (S' := (114, [(0, .ref r)], [.int 4, .int 3, .ref vd], M34)) rfl ?_
                  refine ml_call (a := [.ref vd, .int 3, .int 4]) (rest := []) rfl (okc_t rfl rfl rfl hS35.1 hY3 (by decide)) rfl rfl (tw_Ve_wrong hS35.1 hY3 (by omega)) (fun v51 M52 h53 => ?_)
                  obtain ⟨rfl, h53⟩ := h53
                  have hS55 := hS35.tr h53.1
                  show ml _ _ _ (117, [(0, .ref r)], [.int 0], M52) _
                  exact ml_ret rfl (r_z (Or.inl rfl)) (⟨⟨_, rfl, Or.inl rfl⟩, hS55⟩)
        · have c_55 : ¬ (¬ u29 = 0) := of_decide_eq_false c_55
          refine ml_st (S' := (59, [(0, .ref r)], [.int 0], M27)) rfl rfl rfl ?_
          exact ml_ret rfl (r_z (Or.inl rfl)) (⟨⟨_, rfl, Or.inl rfl⟩, hS31⟩)
      · have c_34 : ¬ (¬ u16 = 0) := of_decide_eq_false c_34
        refine ml_st (S' := (38, [(0, .ref r)], [.int 0], M14)) rfl rfl rfl ?_
        exact ml_ret rfl (r_z (Or.inl rfl)) (⟨⟨_, rfl, Or.inl rfl⟩, hS18⟩)
    · have c_16 : ¬ (u9 = (-889275714)) := of_decide_eq_false c_16
      refine ml_st (S' := (20, [(0, .ref r)], [.ref r], M4)) rfl rfl rfl ?_
      refine tg_ref (S' := (23, [(0, .ref r)], [.ref vd], M4)) rfl hS8.1 hY0 (by decide) rfl rfl ?_
      refine ml_blk 2 (S' := (25, [(0, .ref r)], [.int 0, .int 2, .ref vd], M4)) rfl ?_
      refine ml_call (a := [.ref vd, .int 2, .int 0]) (rest := []) rfl (okc_t rfl rfl rfl hS8.1 hY3 (by decide)) rfl rfl (tw_Ve_wrong hS8.1 hY3 (by omega)) (fun v56 M57 h58 => ?_)
      obtain ⟨rfl, h58⟩ := h58
      have hS60 := hS8.tr h58.1
      show ml _ _ _ (28, [(0, .ref r)], [.int 0], M57) _
      exact ml_ret rfl (r_z (Or.inl rfl)) (⟨⟨_, rfl, Or.inl rfl⟩, hS60⟩)
  · have c_5 : ¬ (¬ u6 = 0) := of_decide_eq_false c_5
    refine ml_st (S' := (9, [(0, .ref r)], [.int 0], M4)) rfl rfl rfl ?_
    exact ml_ret rfl (r_z (Or.inl rfl)) (⟨⟨_, rfl, Or.inl rfl⟩, hS8⟩)
set_option maxHeartbeats 2000000 in
theorem tr_takesClass {g : xe_G} {M : mi_H} {Y : yT} {r c b vd n da : Nat}  (hW : WF g Y M) (hY0 : Y.1 r = some (9, [c, b, vd, n])) (hY1 : Y.1 c = some (3, [b, da, n])) (hY2 : Y.1 b = some (1, [da, n])) (hY3 : Y.1 vd = some (10, [])) {d : Nat} (hd : 3 ≤ d) : mt (mT g) d 161 [.ref r] M (qZ g Y M) := by
  obtain ⟨d, rfl⟩ : ∃ e, d = e + 1 := ⟨d - 1, by omega⟩
  have hS : st g Y M M := st.rf hW
  refine mt_in (b := mb_161 g) rfl rfl ?_
  show ml (mT g) d (mb_161 g).2 (0, [(0, .ref r)], [], M) _
  refine ml_st (S' := (1, [(0, .ref r)], [.ref r], M)) rfl rfl rfl ?_
  refine tg_ref (S' := (4, [(0, .ref r)], [.ref c], M)) rfl hS.1 hY0 (by decide) rfl rfl ?_
  refine ml_st (S' := (5, [(0, .ref r)], [.ref r, .ref c], M)) rfl rfl rfl ?_
  refine tg_int rfl hS.1 hY0 (by decide) rfl (fun u1 g2 => ?_)
  show ml _ _ _ (8, [(0, .ref r)], [.int u1, .ref c], M) _
  refine tp_put rfl hS hY1 (by decide) rfl (⟨_, rfl⟩) rfl rfl (fun M3 hS4 f5 => ?_)
  show ml _ _ _ (11, [(0, .ref r)], [], M3) _
  refine ml_blk 2 (S' := (13, [(0, .ref r)], [.int 2, .ref r], M3)) rfl ?_
  obtain ⟨u6, g7, -⟩ := hS4.1.rd hY0
  refine ml_call (a := [.ref r, .int 2]) (rest := []) rfl (okc_t rfl rfl rfl hS4.1 hY0 (by decide)) rfl rfl (tr_takes hS4.1 hY0 hY1 hY2 hY3 g7 (by decide) (by omega)) (fun v8 M9 h10 => ?_)
  obtain ⟨⟨u11, rfl, z12⟩, h10⟩ := h10
  have hS13 := hS4.tr h10.1
  show ml _ _ _ (16, [(0, .ref r)], [.int u11], M9) _
  refine ml_if (S1 := (43, [], [], M9)) (S2 := (19, [(0, .ref r)], [], M9)) rfl rfl rfl (fun c_16 => ?_) (fun c_16 => ?_)
  · have c_16 : u11 = 0 := of_decide_eq_true c_16
    refine ml_st (S' := (44, [], [.int 0], M9)) rfl rfl rfl ?_
    exact ml_ret rfl (r_z (Or.inl rfl)) (⟨⟨_, rfl, Or.inl rfl⟩, hS13⟩)
  · have c_16 : ¬ (u11 = 0) := of_decide_eq_false c_16
    refine ml_blk 2 (S' := (21, [(0, .ref r)], [.int 2, .ref r], M9)) rfl ?_
    obtain ⟨u14, g15, -⟩ := hS13.1.rd hY0
    refine ml_call (a := [.ref r, .int 2]) (rest := []) rfl (okc_t rfl rfl rfl hS13.1 hY0 (by decide)) rfl rfl (tr_takes hS13.1 hY0 hY1 hY2 hY3 g15 (by decide) (by omega)) (fun v16 M17 h18 => ?_)
    obtain ⟨⟨u19, rfl, z20⟩, h18⟩ := h18
    have hS21 := hS13.tr h18.1
    show ml _ _ _ (24, [(0, .ref r)], [.int u19], M17) _
    refine ml_if (S1 := (43, [], [], M17)) (S2 := (27, [(0, .ref r)], [], M17)) rfl rfl rfl (fun c_24 => ?_) (fun c_24 => ?_)
    · have c_24 : u19 = 0 := of_decide_eq_true c_24
      refine ml_st (S' := (44, [], [.int 0], M17)) rfl rfl rfl ?_
      exact ml_ret rfl (r_z (Or.inl rfl)) (⟨⟨_, rfl, Or.inl rfl⟩, hS21⟩)
    · have c_24 : ¬ (u19 = 0) := of_decide_eq_false c_24
      refine ml_blk 2 (S' := (29, [(0, .ref r)], [.int 2, .ref r], M17)) rfl ?_
      obtain ⟨u22, g23, -⟩ := hS21.1.rd hY0
      refine ml_call (a := [.ref r, .int 2]) (rest := []) rfl (okc_t rfl rfl rfl hS21.1 hY0 (by decide)) rfl rfl (tr_takes hS21.1 hY0 hY1 hY2 hY3 g23 (by decide) (by omega)) (fun v24 M25 h26 => ?_)
      obtain ⟨⟨u27, rfl, z28⟩, h26⟩ := h26
      have hS29 := hS21.tr h26.1
      show ml _ _ _ (32, [(0, .ref r)], [.int u27], M25) _
      refine ml_if (S1 := (43, [], [], M25)) (S2 := (35, [(0, .ref r)], [], M25)) rfl rfl rfl (fun c_32 => ?_) (fun c_32 => ?_)
      · have c_32 : u27 = 0 := of_decide_eq_true c_32
        refine ml_st (S' := (44, [], [.int 0], M25)) rfl rfl rfl ?_
        exact ml_ret rfl (r_z (Or.inl rfl)) (⟨⟨_, rfl, Or.inl rfl⟩, hS29⟩)
      · have c_32 : ¬ (u27 = 0) := of_decide_eq_false c_32
        refine ml_blk 2 (S' := (37, [(0, .ref r)], [.int 2, .ref r], M25)) rfl ?_
        obtain ⟨u30, g31, -⟩ := hS29.1.rd hY0
        refine ml_call (a := [.ref r, .int 2]) (rest := []) rfl (okc_t rfl rfl rfl hS29.1 hY0 (by decide)) rfl rfl (tr_takes hS29.1 hY0 hY1 hY2 hY3 g31 (by decide) (by omega)) (fun v32 M33 h34 => ?_)
        obtain ⟨⟨u35, rfl, z36⟩, h34⟩ := h34
        have hS37 := hS29.tr h34.1
        show ml _ _ _ (40, [(0, .ref r)], [.int u35], M33) _
        refine ml_if (S1 := (45, [(0, .ref r)], [], M33)) (S2 := (43, [], [], M33)) rfl rfl rfl (fun c_40 => ?_) (fun c_40 => ?_)
        · have c_40 : ¬ u35 = 0 := of_decide_eq_true c_40
          refine ml_st (S' := (46, [(0, .ref r)], [.ref r], M33)) rfl rfl rfl ?_
          refine tg_int rfl hS37.1 hY0 (by decide) rfl (fun u38 g39 => ?_)
          show ml _ _ _ (49, [(0, .ref r)], [.int u38], M33) _
          refine ml_st (S' := (50, [(1, .int u38), (0, .ref r)], [], M33)) rfl rfl rfl ?_
          refine ml_st (S' := (51, [(1, .int u38), (0, .ref r)], [.int 0], M33)) rfl rfl rfl ?_
          refine ml_st (S' := (52, [(0, .ref r), (1, .int u38), (2, .int 0)], [], M33)) rfl rfl rfl ?_
          have L_52 : ∀ (n_52 : Nat) (i52_2 : Int32) (M_52 : mi_H), (2147483648 - i52_2.toInt).toNat ≤ n_52 → st g Y M M_52 → ml (mT g) d (mb_161 g).2 (52, [(0, .ref r), (1, .int u38), (2, .int i52_2)], [], M_52) (qZ g Y M) := by
            intro n_52
            induction n_52 with
            | zero => intro i52_2 M_52 hn; exact (loop_zero hn).elim
            | succ n_52 ih_52 =>
              intro i52_2 M_52 hn_52 hS_52
              refine ml_blk 2 (S' := (54, [(0, .ref r), (1, .int u38), (2, .int i52_2)], [.int u38, .int i52_2], M_52)) rfl ?_
              refine ml_if2 (S1 := (73, [(0, .ref r), (1, .int u38), (2, .int i52_2)], [], M_52)) (S2 := (57, [(0, .ref r), (1, .int u38), (2, .int i52_2)], [], M_52)) rfl rfl rfl (fun c_54 => ?_) (fun c_54 => ?_)
              · have c_54 : u38 ≤ i52_2 := of_decide_eq_true c_54
                refine ml_st (S' := (74, [(0, .ref r), (1, .int u38), (2, .int i52_2)], [.ref r], M_52)) rfl rfl rfl ?_
                refine tg_ref (S' := (77, [(0, .ref r), (1, .int u38), (2, .int i52_2)], [.ref c], M_52)) rfl hS_52.1 hY0 (by decide) rfl rfl ?_
                refine ml_st (S' := (78, [(0, .ref r), (1, .int u38), (2, .int i52_2)], [.int u38, .ref c], M_52)) rfl rfl rfl ?_
                refine tp_put rfl hS_52 hY1 (by decide) rfl (⟨_, rfl⟩) rfl rfl (fun M40 hS41 f42 => ?_)
                show ml _ _ _ (81, [(0, .ref r), (1, .int u38), (2, .int i52_2)], [], M40) _
                refine ml_st (S' := (82, [(0, .ref r), (1, .int u38), (2, .int i52_2)], [.int 1], M40)) rfl rfl rfl ?_
                exact ml_ret rfl (r_z (Or.inr rfl)) (⟨⟨_, rfl, Or.inr rfl⟩, hS41⟩)
              · have c_54 : ¬ (u38 ≤ i52_2) := of_decide_eq_false c_54
                refine ml_blk 2 (S' := (59, [(0, .ref r), (1, .int u38), (2, .int i52_2)], [.int 2, .ref r], M_52)) rfl ?_
                obtain ⟨u43, g44, -⟩ := hS_52.1.rd hY0
                refine ml_call (a := [.ref r, .int 2]) (rest := []) rfl (okc_t rfl rfl rfl hS_52.1 hY0 (by decide)) rfl rfl (tr_takes hS_52.1 hY0 hY1 hY2 hY3 g44 (by decide) (by omega)) (fun v45 M46 h47 => ?_)
                obtain ⟨⟨u48, rfl, z49⟩, h47⟩ := h47
                have hS50 := hS_52.tr h47.1
                show ml _ _ _ (62, [(0, .ref r), (1, .int u38), (2, .int i52_2)], [.int u48], M46) _
                refine ml_if (S1 := (67, [(0, .ref r), (1, .int u38), (2, .int i52_2)], [], M46)) (S2 := (65, [(0, .ref r), (1, .int u38), (2, .int i52_2)], [], M46)) rfl rfl rfl (fun c_62 => ?_) (fun c_62 => ?_)
                · have c_62 : ¬ u48 = 0 := of_decide_eq_true c_62
                  refine ml_st (S' := (70, [(2, .int (i52_2 + 1)), (0, .ref r), (1, .int u38)], [], M46)) rfl rfl rfl ?_
                  refine ml_st (S' := (52, [(0, .ref r), (1, .int u38), (2, .int (i52_2 + 1))], [], M46)) rfl rfl rfl ?_
                  exact ih_52 (i52_2 + 1) _ (loop_inc (Int32.not_le.mp c_54) hn_52) hS50
                · have c_62 : ¬ (¬ u48 = 0) := of_decide_eq_false c_62
                  refine ml_st (S' := (66, [(0, .ref r), (1, .int u38), (2, .int i52_2)], [.int 0], M46)) rfl rfl rfl ?_
                  exact ml_ret rfl (r_z (Or.inl rfl)) (⟨⟨_, rfl, Or.inl rfl⟩, hS50⟩)
          exact L_52 _ 0 _ (Nat.le_refl _) hS37
        · have c_40 : ¬ (¬ u35 = 0) := of_decide_eq_false c_40
          refine ml_st (S' := (44, [], [.int 0], M33)) rfl rfl rfl ?_
          exact ml_ret rfl (r_z (Or.inl rfl)) (⟨⟨_, rfl, Or.inl rfl⟩, hS37⟩)
set_option maxHeartbeats 2000000 in
theorem tr_isTag {g : xe_G} {M : mi_H} {Y : yT} {r c b vd n da : Nat} {x1 : Int32}  (hW : WF g Y M) (hY0 : Y.1 r = some (9, [c, b, vd, n])) (hY1 : Y.1 c = some (3, [b, da, n])) (hY2 : Y.1 b = some (1, [da, n])) (hY3 : Y.1 vd = some (10, [])) {d : Nat} (hd : 1 ≤ d) : mt (mT g) d 157 [.ref r, .int x1] M (pZ M) := by
  obtain ⟨d, rfl⟩ : ∃ e, d = e + 1 := ⟨d - 1, by omega⟩
  have hS : st g Y M M := st.rf hW
  refine mt_in (b := mb_157 g) rfl rfl ?_
  show ml (mT g) d (mb_157 g).2 (0, [(0, .ref r), (1, .int x1)], [], M) _
  refine ml_st (S' := (1, [(0, .ref r), (1, .int x1)], [.int x1], M)) rfl rfl rfl ?_
  refine ml_sw rfl (fun t_1 ht_1 => ?_)
  have kt_1 := ht_1
  have ht_1 : t_1 ∈ [40, 58, 76, 94] := mi_sw_sub ht_1 (by decide)
  simp only [List.mem_cons, List.not_mem_nil, or_false] at ht_1
  rcases ht_1 with rfl | rfl | rfl | rfl
  · show ml _ _ _ (40, [(0, .ref r), (1, .int x1)], [], M) _
    refine ml_st (S' := (41, [(0, .ref r), (1, .int x1)], [.ref r], M)) rfl rfl rfl ?_
    refine tg_ref (S' := (44, [(0, .ref r), (1, .int x1)], [.ref c], M)) rfl hS.1 hY0 (by decide) rfl rfl ?_
    refine tg_int rfl hS.1 hY1 (by decide) rfl (fun u1 g2 => ?_)
    show ml _ _ _ (47, [(0, .ref r), (1, .int x1)], [.int u1], M) _
    refine ml_st (S' := (49, [(0, .ref r), (1, .int x1)], [.int 51, .int u1], M)) rfl rfl rfl ?_
    refine ml_if2 (S1 := (56, [(0, .ref r), (1, .int x1)], [], M)) (S2 := (52, [(0, .ref r), (1, .int x1)], [], M)) rfl rfl rfl (fun c_49 => ?_) (fun c_49 => ?_)
    · have c_49 : u1 < 51 := of_decide_eq_true c_49
      refine ml_st (S' := (57, [], [.int 0], M)) rfl rfl rfl ?_
      exact ml_ret rfl (r_z (Or.inl rfl)) (⟨⟨_, rfl, Or.inl rfl⟩, rfl⟩)
    · have c_49 : ¬ (u1 < 51) := of_decide_eq_false c_49
      refine ml_st (S' := (53, [(0, .ref r), (1, .int x1)], [.int 1], M)) rfl rfl rfl ?_
      refine ml_st (S' := (57, [], [.int 1], M)) rfl rfl rfl ?_
      exact ml_ret rfl (r_z (Or.inr rfl)) (⟨⟨_, rfl, Or.inr rfl⟩, rfl⟩)
  · show ml _ _ _ (58, [(0, .ref r), (1, .int x1)], [], M) _
    refine ml_st (S' := (59, [(0, .ref r), (1, .int x1)], [.ref r], M)) rfl rfl rfl ?_
    refine tg_ref (S' := (62, [(0, .ref r), (1, .int x1)], [.ref c], M)) rfl hS.1 hY0 (by decide) rfl rfl ?_
    refine tg_int rfl hS.1 hY1 (by decide) rfl (fun u3 g4 => ?_)
    show ml _ _ _ (65, [(0, .ref r), (1, .int x1)], [.int u3], M) _
    refine ml_st (S' := (67, [(0, .ref r), (1, .int x1)], [.int 53, .int u3], M)) rfl rfl rfl ?_
    refine ml_if2 (S1 := (74, [(0, .ref r), (1, .int x1)], [], M)) (S2 := (70, [(0, .ref r), (1, .int x1)], [], M)) rfl rfl rfl (fun c_67 => ?_) (fun c_67 => ?_)
    · have c_67 : u3 < 53 := of_decide_eq_true c_67
      refine ml_st (S' := (75, [], [.int 0], M)) rfl rfl rfl ?_
      exact ml_ret rfl (r_z (Or.inl rfl)) (⟨⟨_, rfl, Or.inl rfl⟩, rfl⟩)
    · have c_67 : ¬ (u3 < 53) := of_decide_eq_false c_67
      refine ml_st (S' := (71, [(0, .ref r), (1, .int x1)], [.int 1], M)) rfl rfl rfl ?_
      refine ml_st (S' := (75, [], [.int 1], M)) rfl rfl rfl ?_
      exact ml_ret rfl (r_z (Or.inr rfl)) (⟨⟨_, rfl, Or.inr rfl⟩, rfl⟩)
  · show ml _ _ _ (76, [(0, .ref r), (1, .int x1)], [], M) _
    refine ml_st (S' := (77, [(0, .ref r), (1, .int x1)], [.ref r], M)) rfl rfl rfl ?_
    refine tg_ref (S' := (80, [(0, .ref r), (1, .int x1)], [.ref c], M)) rfl hS.1 hY0 (by decide) rfl rfl ?_
    refine tg_int rfl hS.1 hY1 (by decide) rfl (fun u5 g6 => ?_)
    show ml _ _ _ (83, [(0, .ref r), (1, .int x1)], [.int u5], M) _
    refine ml_st (S' := (85, [(0, .ref r), (1, .int x1)], [.int 55, .int u5], M)) rfl rfl rfl ?_
    refine ml_if2 (S1 := (92, [(0, .ref r), (1, .int x1)], [], M)) (S2 := (88, [(0, .ref r), (1, .int x1)], [], M)) rfl rfl rfl (fun c_85 => ?_) (fun c_85 => ?_)
    · have c_85 : u5 < 55 := of_decide_eq_true c_85
      refine ml_st (S' := (93, [], [.int 0], M)) rfl rfl rfl ?_
      exact ml_ret rfl (r_z (Or.inl rfl)) (⟨⟨_, rfl, Or.inl rfl⟩, rfl⟩)
    · have c_85 : ¬ (u5 < 55) := of_decide_eq_false c_85
      refine ml_st (S' := (89, [(0, .ref r), (1, .int x1)], [.int 1], M)) rfl rfl rfl ?_
      refine ml_st (S' := (93, [], [.int 1], M)) rfl rfl rfl ?_
      exact ml_ret rfl (r_z (Or.inr rfl)) (⟨⟨_, rfl, Or.inr rfl⟩, rfl⟩)
  · show ml _ _ _ (94, [(0, .ref r), (1, .int x1)], [], M) _
    refine ml_blk 2 (S' := (96, [(0, .ref r), (1, .int x1)], [.int 1, .int x1], M)) rfl ?_
    refine ml_if2 (S1 := (110, [], [], M)) (S2 := (99, [(0, .ref r), (1, .int x1)], [], M)) rfl rfl rfl (fun c_96 => ?_) (fun c_96 => ?_)
    · have c_96 : x1 = 1 := of_decide_eq_true c_96
      refine ml_st (S' := (111, [], [.int 1], M)) rfl rfl rfl ?_
      refine ml_st (S' := (115, [], [.int 1], M)) rfl rfl rfl ?_
      exact ml_ret rfl (r_z (Or.inr rfl)) (⟨⟨_, rfl, Or.inr rfl⟩, rfl⟩)
    · have c_96 : ¬ (x1 = 1) := of_decide_eq_false c_96
      refine ml_blk 2 (S' := (101, [(0, .ref r), (1, .int x1)], [.int 3, .int x1], M)) rfl ?_
      refine ml_if2 (S1 := (114, [], [], M)) (S2 := (104, [(0, .ref r), (1, .int x1)], [], M)) rfl rfl rfl (fun c_101 => ?_) (fun c_101 => ?_)
      · have c_101 : x1 < 3 := of_decide_eq_true c_101
        refine ml_st (S' := (115, [], [.int 0], M)) rfl rfl rfl ?_
        exact ml_ret rfl (r_z (Or.inl rfl)) (⟨⟨_, rfl, Or.inl rfl⟩, rfl⟩)
      · have c_101 : ¬ (x1 < 3) := of_decide_eq_false c_101
        refine ml_blk 2 (S' := (107, [(0, .ref r), (1, .int x1)], [.int 12, .int x1], M)) rfl ?_
        refine ml_if2 (S1 := (114, [], [], M)) (S2 := (110, [], [], M)) rfl rfl rfl (fun c_107 => ?_) (fun c_107 => ?_)
        · have c_107 : 12 < x1 := of_decide_eq_true c_107
          refine ml_st (S' := (115, [], [.int 0], M)) rfl rfl rfl ?_
          exact ml_ret rfl (r_z (Or.inl rfl)) (⟨⟨_, rfl, Or.inl rfl⟩, rfl⟩)
        · have c_107 : ¬ (12 < x1) := of_decide_eq_false c_107
          refine ml_st (S' := (111, [], [.int 1], M)) rfl rfl rfl ?_
          refine ml_st (S' := (115, [], [.int 1], M)) rfl rfl rfl ?_
          exact ml_ret rfl (r_z (Or.inr rfl)) (⟨⟨_, rfl, Or.inr rfl⟩, rfl⟩)
set_option maxHeartbeats 2000000 in
theorem tr_characterOf {g : xe_G} {M : mi_H} {Y : yT} {r c b vd n da : Nat} {x1 : Int32}  (hW : WF g Y M) (hY0 : Y.1 r = some (9, [c, b, vd, n])) (hY1 : Y.1 c = some (3, [b, da, n])) (hY2 : Y.1 b = some (1, [da, n])) (hY3 : Y.1 vd = some (10, [])) {d : Nat} (hd : 2 ≤ d) : mt (mT g) d 155 [.ref r, .int x1] M (pI M) := by
  obtain ⟨d, rfl⟩ : ∃ e, d = e + 1 := ⟨d - 1, by omega⟩
  have hS : st g Y M M := st.rf hW
  refine mt_in (b := mb_155 g) rfl rfl ?_
  show ml (mT g) d (mb_155 g).2 (0, [(0, .ref r), (1, .int x1)], [], M) _
  refine ml_st (S' := (1, [(0, .ref r), (1, .int x1)], [.ref r], M)) rfl rfl rfl ?_
  refine tg_ref (S' := (4, [(0, .ref r), (1, .int x1)], [.ref b], M)) rfl hS.1 hY0 (by decide) rfl rfl ?_
  refine ml_st (S' := (5, [(0, .ref r), (1, .int x1)], [.ref r, .ref b], M)) rfl rfl rfl ?_
  refine tg_int rfl hS.1 hY0 (by decide) rfl (fun u1 g2 => ?_)
  show ml _ _ _ (8, [(0, .ref r), (1, .int x1)], [.int u1, .ref b], M) _
  refine ml_call (a := [.ref b, .int u1]) (rest := []) rfl (okc_t rfl rfl rfl hS.1 hY2 (by decide)) rfl rfl (tq_u1 hS.1 hY2 (by omega)) (fun v3 M4 h5 => ?_)
  obtain ⟨⟨u6, rfl⟩, h5⟩ := h5
  rw [h5]
  show ml _ _ _ (11, [(0, .ref r), (1, .int x1)], [.int u6], M) _
  refine ml_st (S' := (12, [(2, .int u6), (0, .ref r), (1, .int x1)], [], M)) rfl rfl rfl ?_
  refine ml_blk 2 (S' := (14, [(2, .int u6), (0, .ref r), (1, .int x1)], [.int 1, .int x1], M)) rfl ?_
  refine ml_if2 (S1 := (19, [(2, .int u6), (0, .ref r), (1, .int x1)], [], M)) (S2 := (17, [(2, .int u6), (0, .ref r), (1, .int x1)], [], M)) rfl rfl rfl (fun c_14 => ?_) (fun c_14 => ?_)
  · have c_14 : ¬ x1 = 1 := of_decide_eq_true c_14
    refine ml_blk 2 (S' := (21, [(2, .int u6), (0, .ref r), (1, .int x1)], [.int 2, .int x1], M)) rfl ?_
    refine ml_if2 (S1 := (49, [(2, .int u6), (0, .ref r), (1, .int x1)], [], M)) (S2 := (24, [(2, .int u6), (0, .ref r), (1, .int x1)], [], M)) rfl rfl rfl (fun c_21 => ?_) (fun c_21 => ?_)
    · have c_21 : ¬ x1 = 2 := of_decide_eq_true c_21
      refine ml_blk 3 (S' := (53, [(2, .int u6), (0, .ref r), (1, .int x1)], [.int (u6 &&& 15)], M)) rfl ?_
      refine ml_blk 3 (S' := (57, [(2, .int u6), (0, .ref r), (1, .int x1)], [.ref r, .int ((u6 &&& 15) <<< (12 &&& 31))], M)) rfl ?_
      refine tg_ref (S' := (60, [(2, .int u6), (0, .ref r), (1, .int x1)], [.ref b, .int ((u6 &&& 15) <<< (12 &&& 31))], M)) rfl hS.1 hY0 (by decide) rfl rfl ?_
      refine ml_st (S' := (61, [(2, .int u6), (0, .ref r), (1, .int x1)], [.ref r, .ref b, .int ((u6 &&& 15) <<< (12 &&& 31))], M)) rfl rfl rfl ?_
      refine ml_get (S' := (64, [(2, .int u6), (0, .ref r), (1, .int x1)], [.int u1, .ref b, .int ((u6 &&& 15) <<< (12 &&& 31))], M)) rfl g2 rfl ?_
      refine ml_blk 2 (S' := (66, [(2, .int u6), (0, .ref r), (1, .int x1)], [.int (u1 + 1), .ref b, .int ((u6 &&& 15) <<< (12 &&& 31))], M)) rfl ?_
      refine ml_call (a := [.ref b, .int (u1 + 1)]) (rest := [.int ((u6 &&& 15) <<< (12 &&& 31))]) rfl (okc_t rfl rfl rfl hS.1 hY2 (by decide)) rfl rfl (tq_u1 hS.1 hY2 (by omega)) (fun v7 M8 h9 => ?_)
      obtain ⟨⟨u10, rfl⟩, h9⟩ := h9
      rw [h9]
      show ml _ _ _ (69, [(2, .int u6), (0, .ref r), (1, .int x1)], [.int u10, .int ((u6 &&& 15) <<< (12 &&& 31))], M) _
      refine ml_blk 3 (S' := (74, [(2, .int u6), (0, .ref r), (1, .int x1)], [.int 6, .int (u10 &&& 63), .int ((u6 &&& 15) <<< (12 &&& 31))], M)) rfl ?_
      refine ml_blk 3 (S' := (77, [(2, .int u6), (0, .ref r), (1, .int x1)], [.ref r, .int (((u6 &&& 15) <<< (12 &&& 31)) ||| ((u10 &&& 63) <<< (6 &&& 31)))], M)) rfl ?_
      refine tg_ref (S' := (80, [(2, .int u6), (0, .ref r), (1, .int x1)], [.ref b, .int (((u6 &&& 15) <<< (12 &&& 31)) ||| ((u10 &&& 63) <<< (6 &&& 31)))], M)) rfl hS.1 hY0 (by decide) rfl rfl ?_
      refine ml_st (S' := (81, [(2, .int u6), (0, .ref r), (1, .int x1)], [.ref r, .ref b, .int (((u6 &&& 15) <<< (12 &&& 31)) ||| ((u10 &&& 63) <<< (6 &&& 31)))], M)) rfl rfl rfl ?_
      refine ml_get (S' := (84, [(2, .int u6), (0, .ref r), (1, .int x1)], [.int u1, .ref b, .int (((u6 &&& 15) <<< (12 &&& 31)) ||| ((u10 &&& 63) <<< (6 &&& 31)))], M)) rfl g2 rfl ?_
      refine ml_blk 2 (S' := (86, [(2, .int u6), (0, .ref r), (1, .int x1)], [.int (u1 + 2), .ref b, .int (((u6 &&& 15) <<< (12 &&& 31)) ||| ((u10 &&& 63) <<< (6 &&& 31)))], M)) rfl ?_
      refine ml_call (a := [.ref b, .int (u1 + 2)]) (rest := [.int (((u6 &&& 15) <<< (12 &&& 31)) ||| ((u10 &&& 63) <<< (6 &&& 31)))]) rfl (okc_t rfl rfl rfl hS.1 hY2 (by decide)) rfl rfl (tq_u1 hS.1 hY2 (by omega)) (fun v11 M12 h13 => ?_)
      obtain ⟨⟨u14, rfl⟩, h13⟩ := h13
      rw [h13]
      show ml _ _ _ (89, [(2, .int u6), (0, .ref r), (1, .int x1)], [.int u14, .int (((u6 &&& 15) <<< (12 &&& 31)) ||| ((u10 &&& 63) <<< (6 &&& 31)))], M) _
      refine ml_blk 3 (S' := (93, [(2, .int u6), (0, .ref r), (1, .int x1)], [.int ((((u6 &&& 15) <<< (12 &&& 31)) ||| ((u10 &&& 63) <<< (6 &&& 31))) ||| (u14 &&& 63))], M)) rfl ?_
      exact ml_ret rfl (rfl) (⟨⟨_, rfl⟩, rfl⟩)
    · have c_21 : ¬ (¬ x1 = 2) := of_decide_eq_false c_21
      refine ml_blk 3 (S' := (28, [(2, .int u6), (0, .ref r), (1, .int x1)], [.int (u6 &&& 31)], M)) rfl ?_
      refine ml_blk 3 (S' := (32, [(2, .int u6), (0, .ref r), (1, .int x1)], [.ref r, .int ((u6 &&& 31) <<< (6 &&& 31))], M)) rfl ?_
      refine tg_ref (S' := (35, [(2, .int u6), (0, .ref r), (1, .int x1)], [.ref b, .int ((u6 &&& 31) <<< (6 &&& 31))], M)) rfl hS.1 hY0 (by decide) rfl rfl ?_
      refine ml_st (S' := (36, [(2, .int u6), (0, .ref r), (1, .int x1)], [.ref r, .ref b, .int ((u6 &&& 31) <<< (6 &&& 31))], M)) rfl rfl rfl ?_
      refine ml_get (S' := (39, [(2, .int u6), (0, .ref r), (1, .int x1)], [.int u1, .ref b, .int ((u6 &&& 31) <<< (6 &&& 31))], M)) rfl g2 rfl ?_
      refine ml_blk 2 (S' := (41, [(2, .int u6), (0, .ref r), (1, .int x1)], [.int (u1 + 1), .ref b, .int ((u6 &&& 31) <<< (6 &&& 31))], M)) rfl ?_
      refine ml_call (a := [.ref b, .int (u1 + 1)]) (rest := [.int ((u6 &&& 31) <<< (6 &&& 31))]) rfl (okc_t rfl rfl rfl hS.1 hY2 (by decide)) rfl rfl (tq_u1 hS.1 hY2 (by omega)) (fun v15 M16 h17 => ?_)
      obtain ⟨⟨u18, rfl⟩, h17⟩ := h17
      rw [h17]
      show ml _ _ _ (44, [(2, .int u6), (0, .ref r), (1, .int x1)], [.int u18, .int ((u6 &&& 31) <<< (6 &&& 31))], M) _
      refine ml_blk 3 (S' := (48, [(2, .int u6), (0, .ref r), (1, .int x1)], [.int (((u6 &&& 31) <<< (6 &&& 31)) ||| (u18 &&& 63))], M)) rfl ?_
      exact ml_ret rfl (rfl) (⟨⟨_, rfl⟩, rfl⟩)
  · have c_14 : ¬ (¬ x1 = 1) := of_decide_eq_false c_14
    refine ml_st (S' := (18, [(2, .int u6), (0, .ref r), (1, .int x1)], [.int u6], M)) rfl rfl rfl ?_
    exact ml_ret rfl (rfl) (⟨⟨_, rfl⟩, rfl⟩)
theorem add_k {a k : Int32} {n : Nat} (h0 : 0 ≤ a.toInt) (h1 : a.toInt ≤ n) (hn : n < 1073741824) (hk : 0 ≤ k.toInt) (hk' : k.toInt < 1073741824) : (a + k).toInt = a.toInt + k.toInt := i_add (by omega) (by omega)
set_option maxHeartbeats 2000000 in
theorem tr_characterSize {g : xe_G} {M : mi_H} {Y : yT} {r c b vd n da : Nat} {x1 : Int32} {a0 : Int32} (hW : WF g Y M) (hY0 : Y.1 r = some (9, [c, b, vd, n])) (hY1 : Y.1 c = some (3, [b, da, n])) (hY2 : Y.1 b = some (1, [da, n])) (hY3 : Y.1 vd = some (10, [])) (hr3 : mi_gf M r 9 3 = some (.int a0)) (hlt : a0 < x1) {d : Nat} (hd : 2 ≤ d) : mt (mT g) d 156 [.ref r, .int x1] M (fun v M' => (∃ x : Int32, v = some (.int x) ∧ (x = 0 ∨ 1 ≤ x.toInt ∧ a0.toInt + x.toInt ≤ x1.toInt)) ∧ M' = M) := by
  obtain ⟨d, rfl⟩ : ∃ e, d = e + 1 := ⟨d - 1, by omega⟩
  have hS : st g Y M M := st.rf hW
  refine mt_in (b := mb_156 g) rfl rfl ?_
  show ml (mT g) d (mb_156 g).2 (0, [(0, .ref r), (1, .int x1)], [], M) _
  obtain ⟨h0, h1⟩ := hW.rdb hY0 hr3
  have hn := hW.bn hY2
  refine ml_st (S' := (1, [(0, .ref r), (1, .int x1)], [.ref r], M)) rfl rfl rfl ?_
  refine tg_ref (S' := (4, [(0, .ref r), (1, .int x1)], [.ref b], M)) rfl hS.1 hY0 (by decide) rfl rfl ?_
  refine ml_st (S' := (5, [(0, .ref r), (1, .int x1)], [.ref r, .ref b], M)) rfl rfl rfl ?_
  refine ml_get (S' := (8, [(0, .ref r), (1, .int x1)], [.int a0, .ref b], M)) rfl hr3 rfl ?_
  refine ml_call (a := [.ref b, .int a0]) (rest := []) rfl (okc_t rfl rfl rfl hS.1 hY2 (by decide)) rfl rfl (tq_u1 hS.1 hY2 (by omega)) (fun v1 M2 h3 => ?_)
  obtain ⟨⟨u4, rfl⟩, h3⟩ := h3
  rw [h3]
  show ml _ _ _ (11, [(0, .ref r), (1, .int x1)], [.int u4], M) _
  refine ml_st (S' := (12, [(2, .int u4), (0, .ref r), (1, .int x1)], [], M)) rfl rfl rfl ?_
  refine ml_blk 2 (S' := (16, [(2, .int u4), (0, .ref r), (1, .int x1)], [.int 128, .int u4], M)) rfl ?_
  refine ml_if2 (S1 := (29, [(2, .int u4), (0, .ref r), (1, .int x1)], [], M)) (S2 := (19, [(2, .int u4), (0, .ref r), (1, .int x1)], [], M)) rfl rfl rfl (fun c_16 => ?_) (fun c_16 => ?_)
  · have c_16 : 128 ≤ u4 := of_decide_eq_true c_16
    refine ml_blk 2 (S' := (33, [(2, .int u4), (0, .ref r), (1, .int x1)], [.int 192, .int u4], M)) rfl ?_
    refine ml_if2 (S1 := (60, [], [], M)) (S2 := (36, [(2, .int u4), (0, .ref r), (1, .int x1)], [], M)) rfl rfl rfl (fun c_33 => ?_) (fun c_33 => ?_)
    · have c_33 : u4 < 192 := of_decide_eq_true c_33
      refine ml_st (S' := (61, [], [.int 0], M)) rfl rfl rfl ?_
      exact ml_ret rfl (rfl) (⟨⟨_, rfl, Or.inl rfl⟩, rfl⟩)
    · have c_33 : ¬ (u4 < 192) := of_decide_eq_false c_33
      refine ml_blk 2 (S' := (40, [(2, .int u4), (0, .ref r), (1, .int x1)], [.int 240, .int u4], M)) rfl ?_
      refine ml_if2 (S1 := (60, [], [], M)) (S2 := (43, [(2, .int u4), (0, .ref r), (1, .int x1)], [], M)) rfl rfl rfl (fun c_40 => ?_) (fun c_40 => ?_)
      · have c_40 : 240 ≤ u4 := of_decide_eq_true c_40
        refine ml_st (S' := (61, [], [.int 0], M)) rfl rfl rfl ?_
        exact ml_ret rfl (rfl) (⟨⟨_, rfl, Or.inl rfl⟩, rfl⟩)
      · have c_40 : ¬ (240 ≤ u4) := of_decide_eq_false c_40
        refine ml_st (S' := (44, [(2, .int u4), (0, .ref r), (1, .int x1)], [.ref r], M)) rfl rfl rfl ?_
        refine tg_ref (S' := (47, [(2, .int u4), (0, .ref r), (1, .int x1)], [.ref b], M)) rfl hS.1 hY0 (by decide) rfl rfl ?_
        refine ml_st (S' := (48, [(2, .int u4), (0, .ref r), (1, .int x1)], [.ref r, .ref b], M)) rfl rfl rfl ?_
        refine ml_get (S' := (51, [(2, .int u4), (0, .ref r), (1, .int x1)], [.int a0, .ref b], M)) rfl hr3 rfl ?_
        refine ml_blk 3 (S' := (54, [(2, .int u4), (0, .ref r), (1, .int x1)], [.int x1, .int (a0 + 1), .ref b], M)) rfl ?_
        refine ml_call (a := [.ref b, .int (a0 + 1), .int x1]) (rest := []) rfl (okc_t rfl rfl rfl hS.1 hY2 (by decide)) rfl rfl (ct_goesOn (hS.1.bytes hY2).1 (by omega)) (fun v5 M6 h7 => ?_)
        obtain ⟨rfl, h7⟩ := h7
        rw [h7]
        show ml _ _ _ (57, [(2, .int u4), (0, .ref r), (1, .int x1)], [.int (sp_goesOn n (Y.2 da) (a0 + 1) x1)], M) _
        refine ml_if (S1 := (62, [(2, .int u4), (0, .ref r), (1, .int x1)], [], M)) (S2 := (60, [], [], M)) rfl rfl rfl (fun c_57 => ?_) (fun c_57 => ?_)
        · have c_57 : ¬ (sp_goesOn n (Y.2 da) (a0 + 1) x1) = 0 := of_decide_eq_true c_57
          refine ml_blk 2 (S' := (66, [(2, .int u4), (0, .ref r), (1, .int x1)], [.int 224, .int u4], M)) rfl ?_
          refine ml_if2 (S1 := (71, [(2, .int u4), (0, .ref r), (1, .int x1)], [], M)) (S2 := (69, [(2, .int u4), (0, .ref r), (1, .int x1)], [], M)) rfl rfl rfl (fun c_66 => ?_) (fun c_66 => ?_)
          · have c_66 : 224 ≤ u4 := of_decide_eq_true c_66
            refine ml_st (S' := (72, [(2, .int u4), (0, .ref r), (1, .int x1)], [.ref r], M)) rfl rfl rfl ?_
            refine tg_ref (S' := (75, [(2, .int u4), (0, .ref r), (1, .int x1)], [.ref b], M)) rfl hS.1 hY0 (by decide) rfl rfl ?_
            refine ml_st (S' := (76, [(2, .int u4), (0, .ref r), (1, .int x1)], [.ref r, .ref b], M)) rfl rfl rfl ?_
            refine ml_get (S' := (79, [(2, .int u4), (0, .ref r), (1, .int x1)], [.int a0, .ref b], M)) rfl hr3 rfl ?_
            refine ml_blk 3 (S' := (82, [(2, .int u4), (0, .ref r), (1, .int x1)], [.int x1, .int (a0 + 2), .ref b], M)) rfl ?_
            refine ml_call (a := [.ref b, .int (a0 + 2), .int x1]) (rest := []) rfl (okc_t rfl rfl rfl hS.1 hY2 (by decide)) rfl rfl (ct_goesOn (hS.1.bytes hY2).1 (by omega)) (fun v8 M9 h10 => ?_)
            obtain ⟨rfl, h10⟩ := h10
            rw [h10]
            show ml _ _ _ (85, [(2, .int u4), (0, .ref r), (1, .int x1)], [.int (sp_goesOn n (Y.2 da) (a0 + 2) x1)], M) _
            refine ml_if (S1 := (92, [(2, .int u4), (0, .ref r), (1, .int x1)], [], M)) (S2 := (88, [(2, .int u4), (0, .ref r), (1, .int x1)], [], M)) rfl rfl rfl (fun c_85 => ?_) (fun c_85 => ?_)
            · have c_85 : (sp_goesOn n (Y.2 da) (a0 + 2) x1) = 0 := of_decide_eq_true c_85
              refine ml_st (S' := (93, [], [.int 0], M)) rfl rfl rfl ?_
              exact ml_ret rfl (rfl) (⟨⟨_, rfl, Or.inl rfl⟩, rfl⟩)
            · have c_85 : ¬ ((sp_goesOn n (Y.2 da) (a0 + 2) x1) = 0) := of_decide_eq_false c_85
              refine ml_st (S' := (89, [(2, .int u4), (0, .ref r), (1, .int x1)], [.int 3], M)) rfl rfl rfl ?_
              refine ml_st (S' := (93, [], [.int 3], M)) rfl rfl rfl ?_
              exact ml_ret rfl (rfl) (⟨⟨_, rfl, Or.inr ⟨by decide, by have e := goesOn_lt c_85; have e1 := i_lt e; rw [(add_k (k := 2) h0 h1 hn (by decide) (by decide))] at e1; have : (3 : Int32).toInt = 3 := rfl; have : (2 : Int32).toInt = 2 := rfl; omega⟩⟩, rfl⟩)
          · have c_66 : ¬ (224 ≤ u4) := of_decide_eq_false c_66
            refine ml_st (S' := (70, [(2, .int u4), (0, .ref r), (1, .int x1)], [.int 2], M)) rfl rfl rfl ?_
            exact ml_ret rfl (rfl) (⟨⟨_, rfl, Or.inr ⟨by decide, by have e := goesOn_lt c_57; have e1 := i_lt e; rw [(add_k (k := 1) h0 h1 hn (by decide) (by decide))] at e1; have : (1 : Int32).toInt = 1 := rfl; have : (2 : Int32).toInt = 2 := rfl; omega⟩⟩, rfl⟩)
        · have c_57 : ¬ (¬ (sp_goesOn n (Y.2 da) (a0 + 1) x1) = 0) := of_decide_eq_false c_57
          refine ml_st (S' := (61, [], [.int 0], M)) rfl rfl rfl ?_
          exact ml_ret rfl (rfl) (⟨⟨_, rfl, Or.inl rfl⟩, rfl⟩)
  · have c_16 : ¬ (128 ≤ u4) := of_decide_eq_false c_16
    refine ml_st (S' := (20, [(2, .int u4), (0, .ref r), (1, .int x1)], [.int u4], M)) rfl rfl rfl ?_
    refine ml_if (S1 := (27, [(2, .int u4), (0, .ref r), (1, .int x1)], [], M)) (S2 := (23, [(2, .int u4), (0, .ref r), (1, .int x1)], [], M)) rfl rfl rfl (fun c_20 => ?_) (fun c_20 => ?_)
    · have c_20 : ¬ u4 = 0 := of_decide_eq_true c_20
      refine ml_st (S' := (28, [], [.int 1], M)) rfl rfl rfl ?_
      exact ml_ret rfl (rfl) (⟨⟨_, rfl, Or.inr ⟨by decide, by have := i_lt hlt; have : (1 : Int32).toInt = 1 := rfl; omega⟩⟩, rfl⟩)
    · have c_20 : ¬ (¬ u4 = 0) := of_decide_eq_false c_20
      refine ml_st (S' := (24, [(2, .int u4), (0, .ref r), (1, .int x1)], [.int 0], M)) rfl rfl rfl ?_
      refine ml_st (S' := (28, [], [.int 0], M)) rfl rfl rfl ?_
      exact ml_ret rfl (rfl) (⟨⟨_, rfl, Or.inl rfl⟩, rfl⟩)
theorem a1_of {f : Nat → Int32} {n : Nat} {a : Int32} (hn : n < 1073741824) (h0 : 0 ≤ a.toInt) (h2 : a.toInt + (2 : Int32).toInt ≤ n) (h4 : (a + 2).toInt + (4 : Int32).toInt ≤ n) (c1 : ¬ sp_u4 n f (a + 2) < 0) (c2 : sp_u4 n f (a + 2) ≤ nI n - (a + 2 + 4)) : a1 f n a (a + 2 + 4 + sp_u4 n f (a + 2)) ∧ 0 ≤ (a + 2 + 4 + sp_u4 n f (a + 2)).toInt ∧ (a + 2 + 4 + sp_u4 n f (a + 2)).toInt ≤ n := by
  have e2 : (2 : Int32).toInt = 2 := rfl
  have e4 : (4 : Int32).toInt = 4 := rfl
  have d2 : (a + 2).toInt = a.toInt + 2 := by rw [i_add (by omega) (by omega), e2]
  have d4 : (a + 2 + 4).toInt = a.toInt + 6 := by rw [i_add (by omega) (by omega), d2, e4]; omega
  have d6 : a + 2 + 4 = a + 6 := by rw [Int32.add_assoc]; rfl
  have b1 := nneg c1
  obtain ⟨b2, b3⟩ := le_room hn (by omega) (by omega) b1 c2
  exact ⟨⟨h0, by omega, b1, by omega, by rw [d6]⟩, by omega, by omega⟩

theorem an_end {f : Nat → Int32} {n : Nat} {i N a a' : Int32} (h : an f n i.toInt.toNat a a') (h1 : i.toInt ≤ N.toInt) (h2 : N ≤ i) : an f n N.toInt.toNat a a' := by
  have h3 := i_le h2
  rwa [show N.toInt.toNat = i.toInt.toNat by omega]
theorem an_inc {f : Nat → Int32} {n : Nat} {i N a a' a'' : Int32} (h0 : 0 ≤ i.toInt) (hc : ¬ N ≤ i) (h : an f n i.toInt.toNat a a') (h1 : a1 f n a' a'') : an f n (i + 1).toInt.toNat a a'' := by
  rw [inc_lt (Int32.not_le.mp hc), show (i.toInt + 1).toNat = i.toInt.toNat + 1 by omega]
  exact ⟨a', h, h1⟩
def qA (g : xe_G) (Y : yT) (r vd da n : Nat) (a : Int32) (M : mi_H) : Option Value → mi_H → Prop := fun v M' => (∃ x : Int32, v = some (.int x) ∧ (x = 0 ∨ x = 1 ∧ a.toInt + 2 ≤ n ∧ AW (Y.2 da) n (sp_u2 n (Y.2 da) a).toInt.toNat (a + 2))) ∧ sf g Y [r, vd] M M'

set_option maxHeartbeats 2000000 in
theorem tr_takesAttributes {g : xe_G} {M : mi_H} {Y : yT} {r c b vd n da : Nat} {a0 : Int32} (hW : WF g Y M) (hY0 : Y.1 r = some (9, [c, b, vd, n])) (hY1 : Y.1 c = some (3, [b, da, n])) (hY2 : Y.1 b = some (1, [da, n])) (hY3 : Y.1 vd = some (10, [])) (hr3 : mi_gf M r 9 3 = some (.int a0)) {d : Nat} (hd : 3 ≤ d) : mt (mT g) d 160 [.ref r] M (qA g Y r vd da n a0 M) := by
  obtain ⟨d, rfl⟩ : ∃ e, d = e + 1 := ⟨d - 1, by omega⟩
  have hS : sf g Y [r, vd] M M := sf.rf hW
  refine mt_in (b := mb_160 g) rfl rfl ?_
  show ml (mT g) d (mb_160 g).2 (0, [(0, .ref r)], [], M) _
  obtain ⟨h0, h1⟩ := hW.rdb hY0 hr3
  have hn := hW.bn hY2
  refine ml_blk 2 (S' := (2, [(0, .ref r)], [.int 2, .ref r], M)) rfl ?_
  refine ml_call (a := [.ref r, .int 2]) (rest := []) rfl (okc_t rfl rfl rfl hS.1.1 hY0 (by decide)) rfl rfl (tr_takes hS.1.1 hY0 hY1 hY2 hY3 hr3 (by decide) (by omega)) (fun v1 M2 h3 => ?_)
  obtain ⟨⟨u4, rfl, z5⟩, h3⟩ := h3
  have hS6 := hS.tr h3 (by simp)
  show ml _ _ _ (5, [(0, .ref r)], [.int u4], M2) _
  refine ml_if (S1 := (10, [(0, .ref r)], [], M2)) (S2 := (8, [(0, .ref r)], [], M2)) rfl rfl rfl (fun c_5 => ?_) (fun c_5 => ?_)
  · have c_5 : ¬ u4 = 0 := of_decide_eq_true c_5
    have t7 := z5.resolve_left c_5
    have ha2 := t7.2.1
    refine ml_st (S' := (11, [(0, .ref r)], [.ref r], M2)) rfl rfl rfl ?_
    refine ml_get (S' := (14, [(0, .ref r)], [.int (sp_u2 n (Y.2 da) a0)], M2)) rfl t7.2.2.2 rfl ?_
    refine ml_st (S' := (15, [(1, .int (sp_u2 n (Y.2 da) a0)), (0, .ref r)], [], M2)) rfl rfl rfl ?_
    refine ml_st (S' := (16, [(1, .int (sp_u2 n (Y.2 da) a0)), (0, .ref r)], [.int 0], M2)) rfl rfl rfl ?_
    refine ml_st (S' := (17, [(0, .ref r), (1, .int (sp_u2 n (Y.2 da) a0)), (2, .int 0)], [], M2)) rfl rfl rfl ?_
    have L_17 : ∀ (n_17 : Nat) (i17_2 : Int32) (a17 : Int32) (M_17 : mi_H), (2147483648 - i17_2.toInt).toNat ≤ n_17 → (0 ≤ i17_2.toInt ∧ mi_gf M_17 r 9 3 = some (.int a17) ∧ i17_2.toInt ≤ (sp_u2 n (Y.2 da) a0).toInt ∧ an (Y.2 da) n i17_2.toInt.toNat (a0 + 2) a17) → sf g Y [r, vd] M M_17 → ml (mT g) d (mb_160 g).2 (17, [(0, .ref r), (1, .int (sp_u2 n (Y.2 da) a0)), (2, .int i17_2)], [], M_17) (qA g Y r vd da n a0 M) := by
      intro n_17
      induction n_17 with
      | zero => intro i17_2 a17 M_17 hn; exact (loop_zero hn).elim
      | succ n_17 ih_17 =>
        intro i17_2 a17 M_17 hn_17 hi_17 hS_17
        have hb_17 := hS_17.1.1.rdb hY0 hi_17.2.1
        refine ml_blk 2 (S' := (19, [(0, .ref r), (1, .int (sp_u2 n (Y.2 da) a0)), (2, .int i17_2)], [.int (sp_u2 n (Y.2 da) a0), .int i17_2], M_17)) rfl ?_
        refine ml_if2 (S1 := (98, [(0, .ref r), (1, .int (sp_u2 n (Y.2 da) a0)), (2, .int i17_2)], [], M_17)) (S2 := (22, [(0, .ref r), (1, .int (sp_u2 n (Y.2 da) a0)), (2, .int i17_2)], [], M_17)) rfl rfl rfl (fun c_19 => ?_) (fun c_19 => ?_)
        · have c_19 : (sp_u2 n (Y.2 da) a0) ≤ i17_2 := of_decide_eq_true c_19
          refine ml_st (S' := (99, [(0, .ref r), (1, .int (sp_u2 n (Y.2 da) a0)), (2, .int i17_2)], [.int 1], M_17)) rfl rfl rfl ?_
          exact ml_ret rfl (r_z (Or.inr rfl)) (⟨⟨_, rfl, Or.inr ⟨rfl, ha2, an.all (an_end hi_17.2.2.2 hi_17.2.2.1 c_19) hb_17.1 hb_17.2⟩⟩, hS_17⟩)
        · have c_19 : ¬ ((sp_u2 n (Y.2 da) a0) ≤ i17_2) := of_decide_eq_false c_19
          refine ml_blk 2 (S' := (24, [(0, .ref r), (1, .int (sp_u2 n (Y.2 da) a0)), (2, .int i17_2)], [.int 2, .ref r], M_17)) rfl ?_
          refine ml_call (a := [.ref r, .int 2]) (rest := []) rfl (okc_t rfl rfl rfl hS_17.1.1 hY0 (by decide)) rfl rfl (tr_takes hS_17.1.1 hY0 hY1 hY2 hY3 hi_17.2.1 (by decide) (by omega)) (fun v8 M9 h10 => ?_)
          obtain ⟨⟨u11, rfl, z12⟩, h10⟩ := h10
          have hS13 := hS_17.tr h10 (by simp)
          show ml _ _ _ (27, [(0, .ref r), (1, .int (sp_u2 n (Y.2 da) a0)), (2, .int i17_2)], [.int u11], M9) _
          refine ml_if (S1 := (38, [], [], M9)) (S2 := (30, [(0, .ref r), (1, .int (sp_u2 n (Y.2 da) a0)), (2, .int i17_2)], [], M9)) rfl rfl rfl (fun c_27 => ?_) (fun c_27 => ?_)
          · have c_27 : u11 = 0 := of_decide_eq_true c_27
            refine ml_st (S' := (39, [], [.int 0], M9)) rfl rfl rfl ?_
            exact ml_ret rfl (r_z (Or.inl rfl)) (⟨⟨_, rfl, Or.inl rfl⟩, hS13⟩)
          · have c_27 : ¬ (u11 = 0) := of_decide_eq_false c_27
            have t14 := z12.resolve_left c_27
            refine ml_blk 2 (S' := (32, [(0, .ref r), (1, .int (sp_u2 n (Y.2 da) a0)), (2, .int i17_2)], [.int 4, .ref r], M9)) rfl ?_
            refine ml_call (a := [.ref r, .int 4]) (rest := []) rfl (okc_t rfl rfl rfl hS13.1.1 hY0 (by decide)) rfl rfl (tr_takes hS13.1.1 hY0 hY1 hY2 hY3 t14.2.2.1 (by decide) (by omega)) (fun v15 M16 h17 => ?_)
            obtain ⟨⟨u18, rfl, z19⟩, h17⟩ := h17
            have hS20 := hS13.tr h17 (by simp)
            show ml _ _ _ (35, [(0, .ref r), (1, .int (sp_u2 n (Y.2 da) a0)), (2, .int i17_2)], [.int u18], M16) _
            refine ml_if (S1 := (40, [(0, .ref r), (1, .int (sp_u2 n (Y.2 da) a0)), (2, .int i17_2)], [], M16)) (S2 := (38, [], [], M16)) rfl rfl rfl (fun c_35 => ?_) (fun c_35 => ?_)
            · have c_35 : ¬ u18 = 0 := of_decide_eq_true c_35
              have t21 := z19.resolve_left c_35
              have ht2 := t14.2.1
              have ht4 := t21.2.1
              refine ml_st (S' := (41, [(0, .ref r), (1, .int (sp_u2 n (Y.2 da) a0)), (2, .int i17_2)], [.ref r], M16)) rfl rfl rfl ?_
              refine ml_get (S' := (44, [(0, .ref r), (1, .int (sp_u2 n (Y.2 da) a0)), (2, .int i17_2)], [.int (sp_u4 n (Y.2 da) (a17 + 2))], M16)) rfl t21.2.2.2 rfl ?_
              refine ml_if (S1 := (66, [(0, .ref r)], [], M16)) (S2 := (47, [(0, .ref r), (1, .int (sp_u2 n (Y.2 da) a0)), (2, .int i17_2)], [], M16)) rfl rfl rfl (fun c_44 => ?_) (fun c_44 => ?_)
              · have c_44 : (sp_u4 n (Y.2 da) (a17 + 2)) < 0 := of_decide_eq_true c_44
                refine ml_st (S' := (67, [(0, .ref r)], [.ref r], M16)) rfl rfl rfl ?_
                refine tg_ref (S' := (70, [(0, .ref r)], [.ref vd], M16)) rfl hS20.1.1 hY0 (by decide) rfl rfl ?_
                refine ml_blk 2 (S' := (72, [(0, .ref r)], [.ref r, .int 1, .ref vd], M16)) rfl ?_
                refine ml_get (S' := (75, [(0, .ref r)], [.int (a17 + 2 + 4), .int 1, .ref vd], M16)) rfl t21.2.2.1 rfl ?_
                refine ml_call (a := [.ref vd, .int 1, .int (a17 + 2 + 4)]) (rest := []) rfl (okc_t rfl rfl rfl hS20.1.1 hY3 (by decide)) rfl rfl (tw_Ve_wrong hS20.1.1 hY3 (by omega)) (fun v22 M23 h24 => ?_)
                obtain ⟨rfl, h24⟩ := h24
                have g26 := h24.2.gf (nin_cons (ykne hY0 hY3 (by decide)) nin_nil) t21.2.2.1
                have g27 := h24.2.gf (nin_cons (ykne hY0 hY3 (by decide)) nin_nil) t21.2.2.2
                have hS28 := hS20.tr h24 (by simp)
                show ml _ _ _ (78, [(0, .ref r)], [.int 0], M23) _
                exact ml_ret rfl (r_z (Or.inl rfl)) (⟨⟨_, rfl, Or.inl rfl⟩, hS28⟩)
              · have c_44 : ¬ ((sp_u4 n (Y.2 da) (a17 + 2)) < 0) := of_decide_eq_false c_44
                refine ml_st (S' := (48, [(0, .ref r), (1, .int (sp_u2 n (Y.2 da) a0)), (2, .int i17_2)], [.ref r], M16)) rfl rfl rfl ?_
                refine ml_get (S' := (51, [(0, .ref r), (1, .int (sp_u2 n (Y.2 da) a0)), (2, .int i17_2)], [.int (sp_u4 n (Y.2 da) (a17 + 2))], M16)) rfl t21.2.2.2 rfl ?_
                refine ml_st (S' := (52, [(0, .ref r), (1, .int (sp_u2 n (Y.2 da) a0)), (2, .int i17_2)], [.ref r, .int (sp_u4 n (Y.2 da) (a17 + 2))], M16)) rfl rfl rfl ?_
                refine tg_ref (S' := (55, [(0, .ref r), (1, .int (sp_u2 n (Y.2 da) a0)), (2, .int i17_2)], [.ref b, .int (sp_u4 n (Y.2 da) (a17 + 2))], M16)) rfl hS20.1.1 hY0 (by decide) rfl rfl ?_
                refine ml_call (a := [.ref b]) (rest := [.int (sp_u4 n (Y.2 da) (a17 + 2))]) rfl (okc_t rfl rfl rfl hS20.1.1 hY2 (by decide)) rfl rfl (ct_size (hS20.1.1.bytes hY2).1 (by omega)) (fun v29 M30 h31 => ?_)
                obtain ⟨rfl, h31⟩ := h31
                rw [h31]
                show ml _ _ _ (58, [(0, .ref r), (1, .int (sp_u2 n (Y.2 da) a0)), (2, .int i17_2)], [.int (nI n), .int (sp_u4 n (Y.2 da) (a17 + 2))], M16) _
                refine ml_st (S' := (59, [(0, .ref r), (1, .int (sp_u2 n (Y.2 da) a0)), (2, .int i17_2)], [.ref r, .int (nI n), .int (sp_u4 n (Y.2 da) (a17 + 2))], M16)) rfl rfl rfl ?_
                refine ml_get (S' := (62, [(0, .ref r), (1, .int (sp_u2 n (Y.2 da) a0)), (2, .int i17_2)], [.int (a17 + 2 + 4), .int (nI n), .int (sp_u4 n (Y.2 da) (a17 + 2))], M16)) rfl t21.2.2.1 rfl ?_
                refine ml_st (S' := (63, [(0, .ref r), (1, .int (sp_u2 n (Y.2 da) a0)), (2, .int i17_2)], [.int ((nI n) - (a17 + 2 + 4)), .int (sp_u4 n (Y.2 da) (a17 + 2))], M16)) rfl rfl rfl ?_
                refine ml_if2 (S1 := (79, [(0, .ref r), (1, .int (sp_u2 n (Y.2 da) a0)), (2, .int i17_2)], [], M16)) (S2 := (66, [(0, .ref r)], [], M16)) rfl rfl rfl (fun c_63 => ?_) (fun c_63 => ?_)
                · have c_63 : (sp_u4 n (Y.2 da) (a17 + 2)) ≤ ((nI n) - (a17 + 2 + 4)) := of_decide_eq_true c_63
                  refine ml_blk 2 (S' := (81, [(0, .ref r), (1, .int (sp_u2 n (Y.2 da) a0)), (2, .int i17_2)], [.ref r, .ref r], M16)) rfl ?_
                  refine ml_get (S' := (84, [(0, .ref r), (1, .int (sp_u2 n (Y.2 da) a0)), (2, .int i17_2)], [.int (a17 + 2 + 4), .ref r], M16)) rfl t21.2.2.1 rfl ?_
                  refine ml_st (S' := (85, [(0, .ref r), (1, .int (sp_u2 n (Y.2 da) a0)), (2, .int i17_2)], [.ref r, .int (a17 + 2 + 4), .ref r], M16)) rfl rfl rfl ?_
                  refine ml_get (S' := (88, [(0, .ref r), (1, .int (sp_u2 n (Y.2 da) a0)), (2, .int i17_2)], [.int (sp_u4 n (Y.2 da) (a17 + 2)), .int (a17 + 2 + 4), .ref r], M16)) rfl t21.2.2.2 rfl ?_
                  refine ml_st (S' := (89, [(0, .ref r), (1, .int (sp_u2 n (Y.2 da) a0)), (2, .int i17_2)], [.int ((a17 + 2 + 4) + (sp_u4 n (Y.2 da) (a17 + 2))), .ref r], M16)) rfl rfl rfl ?_
                  refine tp_putx rfl hS20.1 hY0 (by decide) rfl (⟨_, rfl⟩) rfl (fun l hl _ => xtr_at hl (a1_of hn hb_17.1 ht2 ht4 c_44 c_63).2.1 (a1_of hn hb_17.1 ht2 ht4 c_44 c_63).2.2) (fun M32 hS33 f34 => ?_)
                  have hS35 := hS20.put hS33 f34 (by simp)
                  have g36 := f34.2.1 4 _ (by decide) t21.2.2.2
                  show ml _ _ _ (92, [(0, .ref r), (1, .int (sp_u2 n (Y.2 da) a0)), (2, .int i17_2)], [], M32) _
                  refine ml_st (S' := (95, [(2, .int (i17_2 + 1)), (0, .ref r), (1, .int (sp_u2 n (Y.2 da) a0))], [], M32)) rfl rfl rfl ?_
                  refine ml_st (S' := (17, [(0, .ref r), (1, .int (sp_u2 n (Y.2 da) a0)), (2, .int (i17_2 + 1))], [], M32)) rfl rfl rfl ?_
                  exact ih_17 (i17_2 + 1) ((a17 + 2 + 4) + (sp_u4 n (Y.2 da) (a17 + 2))) _ (loop_inc (Int32.not_le.mp c_19) hn_17) (⟨by rw [inc_lt (Int32.not_le.mp c_19)]; have := hi_17.1; omega, f34.2.2.1, by rw [inc_lt (Int32.not_le.mp c_19)]; have := i_nle c_19; omega, an_inc hi_17.1 c_19 hi_17.2.2.2 (a1_of hn hb_17.1 ht2 ht4 c_44 c_63).1⟩) hS35
                · have c_63 : ¬ ((sp_u4 n (Y.2 da) (a17 + 2)) ≤ ((nI n) - (a17 + 2 + 4))) := of_decide_eq_false c_63
                  refine ml_st (S' := (67, [(0, .ref r)], [.ref r], M16)) rfl rfl rfl ?_
                  refine tg_ref (S' := (70, [(0, .ref r)], [.ref vd], M16)) rfl hS20.1.1 hY0 (by decide) rfl rfl ?_
                  refine ml_blk 2 (S' := (72, [(0, .ref r)], [.ref r, .int 1, .ref vd], M16)) rfl ?_
                  refine ml_get (S' := (75, [(0, .ref r)], [.int (a17 + 2 + 4), .int 1, .ref vd], M16)) rfl t21.2.2.1 rfl ?_
                  refine ml_call (a := [.ref vd, .int 1, .int (a17 + 2 + 4)]) (rest := []) rfl (okc_t rfl rfl rfl hS20.1.1 hY3 (by decide)) rfl rfl (tw_Ve_wrong hS20.1.1 hY3 (by omega)) (fun v37 M38 h39 => ?_)
                  obtain ⟨rfl, h39⟩ := h39
                  have g41 := h39.2.gf (nin_cons (ykne hY0 hY3 (by decide)) nin_nil) t21.2.2.1
                  have g42 := h39.2.gf (nin_cons (ykne hY0 hY3 (by decide)) nin_nil) t21.2.2.2
                  have hS43 := hS20.tr h39 (by simp)
                  show ml _ _ _ (78, [(0, .ref r)], [.int 0], M38) _
                  exact ml_ret rfl (r_z (Or.inl rfl)) (⟨⟨_, rfl, Or.inl rfl⟩, hS43⟩)
            · have c_35 : ¬ (¬ u18 = 0) := of_decide_eq_false c_35
              refine ml_st (S' := (39, [], [.int 0], M16)) rfl rfl rfl ?_
              exact ml_ret rfl (r_z (Or.inl rfl)) (⟨⟨_, rfl, Or.inl rfl⟩, hS20⟩)
    exact L_17 _ 0 (a0 + 2) _ (Nat.le_refl _) (⟨by decide, t7.2.2.1, by show (0 : Int) ≤ _; exact u2_pos, rfl⟩) hS6
  · have c_5 : ¬ (¬ u4 = 0) := of_decide_eq_false c_5
    refine ml_st (S' := (9, [(0, .ref r)], [.int 0], M2)) rfl rfl rfl ?_
    exact ml_ret rfl (r_z (Or.inl rfl)) (⟨⟨_, rfl, Or.inl rfl⟩, hS6⟩)
set_option maxHeartbeats 2000000 in
theorem tr_takesEnd {g : xe_G} {M : mi_H} {Y : yT} {r c b vd n da : Nat}  (hW : WF g Y M) (hY0 : Y.1 r = some (9, [c, b, vd, n])) (hY1 : Y.1 c = some (3, [b, da, n])) (hY2 : Y.1 b = some (1, [da, n])) (hY3 : Y.1 vd = some (10, [])) {d : Nat} (hd : 4 ≤ d) : mt (mT g) d 162 [.ref r] M (qZ g Y M) := by
  obtain ⟨d, rfl⟩ : ∃ e, d = e + 1 := ⟨d - 1, by omega⟩
  have hS : st g Y M M := st.rf hW
  refine mt_in (b := mb_162 g) rfl rfl ?_
  show ml (mT g) d (mb_162 g).2 (0, [(0, .ref r)], [], M) _
  refine ml_st (S' := (1, [(0, .ref r)], [.ref r], M)) rfl rfl rfl ?_
  refine tg_ref (S' := (4, [(0, .ref r)], [.ref c], M)) rfl hS.1 hY0 (by decide) rfl rfl ?_
  refine ml_st (S' := (5, [(0, .ref r)], [.ref r, .ref c], M)) rfl rfl rfl ?_
  refine tg_ref (S' := (8, [(0, .ref r)], [.ref b, .ref c], M)) rfl hS.1 hY0 (by decide) rfl rfl ?_
  refine ml_st (S' := (9, [(0, .ref r)], [.ref r, .ref b, .ref c], M)) rfl rfl rfl ?_
  refine tg_int rfl hS.1 hY0 (by decide) rfl (fun u1 g2 => ?_)
  show ml _ _ _ (12, [(0, .ref r)], [.int u1, .ref b, .ref c], M) _
  refine ml_call (a := [.ref b, .int u1]) (rest := [.ref c]) rfl (okc_t rfl rfl rfl hS.1 hY2 (by decide)) rfl rfl (tq_u2 hS.1 hY2 (by omega)) (fun v3 M4 h5 => ?_)
  obtain ⟨⟨u6, rfl⟩, h5⟩ := h5
  rw [h5]
  show ml _ _ _ (15, [(0, .ref r)], [.int u6, .ref c], M) _
  refine tp_put rfl hS hY1 (by decide) rfl (⟨_, rfl⟩) rfl rfl (fun M7 hS8 f9 => ?_)
  show ml _ _ _ (18, [(0, .ref r)], [], M7) _
  refine ml_st (S' := (19, [(0, .ref r)], [.ref r], M7)) rfl rfl rfl ?_
  refine tg_ref (S' := (22, [(0, .ref r)], [.ref c], M7)) rfl hS8.1 hY0 (by decide) rfl rfl ?_
  refine ml_st (S' := (23, [(0, .ref r)], [.ref r, .ref c], M7)) rfl rfl rfl ?_
  refine tg_int rfl hS8.1 hY0 (by decide) rfl (fun u10 g11 => ?_)
  show ml _ _ _ (26, [(0, .ref r)], [.int u10, .ref c], M7) _
  refine ml_blk 2 (S' := (28, [(0, .ref r)], [.int (u10 + 2), .ref c], M7)) rfl ?_
  refine tp_put rfl hS8 hY1 (by decide) rfl (⟨_, rfl⟩) rfl rfl (fun M12 hS13 f14 => ?_)
  show ml _ _ _ (31, [(0, .ref r)], [], M12) _
  refine ml_st (S' := (32, [(0, .ref r)], [.ref r], M12)) rfl rfl rfl ?_
  obtain ⟨u15, g16, -⟩ := hS13.1.rd hY0
  refine ml_call (a := [.ref r]) (rest := []) rfl (okc_t rfl rfl rfl hS13.1 hY0 (by decide)) rfl rfl (tr_takesAttributes hS13.1 hY0 hY1 hY2 hY3 g16 (by omega)) (fun v17 M18 h19 => ?_)
  obtain ⟨⟨u20, rfl, z21⟩, h19⟩ := h19
  have hS22 := hS13.tr h19.1
  show ml _ _ _ (35, [(0, .ref r)], [.int u20], M18) _
  refine ml_if (S1 := (40, [(0, .ref r)], [], M18)) (S2 := (38, [(0, .ref r)], [], M18)) rfl rfl rfl (fun c_35 => ?_) (fun c_35 => ?_)
  · have c_35 : ¬ u20 = 0 := of_decide_eq_true c_35
    refine ml_st (S' := (41, [(0, .ref r)], [.ref r], M18)) rfl rfl rfl ?_
    refine tg_int rfl hS22.1 hY0 (by decide) rfl (fun u23 g24 => ?_)
    show ml _ _ _ (44, [(0, .ref r)], [.int u23], M18) _
    refine ml_st (S' := (45, [(0, .ref r)], [.ref r, .int u23], M18)) rfl rfl rfl ?_
    refine tg_ref (S' := (48, [(0, .ref r)], [.ref b, .int u23], M18)) rfl hS22.1 hY0 (by decide) rfl rfl ?_
    refine ml_call (a := [.ref b]) (rest := [.int u23]) rfl (okc_t rfl rfl rfl hS22.1 hY2 (by decide)) rfl rfl (tq_size hS22.1 hY2 (by omega)) (fun v25 M26 h27 => ?_)
    obtain ⟨⟨u28, rfl⟩, h27⟩ := h27
    rw [h27]
    show ml _ _ _ (51, [(0, .ref r)], [.int u28, .int u23], M18) _
    refine ml_if2 (S1 := (70, [], [], M18)) (S2 := (54, [(0, .ref r)], [], M18)) rfl rfl rfl (fun c_51 => ?_) (fun c_51 => ?_)
    · have c_51 : u23 = u28 := of_decide_eq_true c_51
      refine ml_st (S' := (71, [], [.int 1], M18)) rfl rfl rfl ?_
      refine ml_st (S' := (75, [], [.int 1], M18)) rfl rfl rfl ?_
      exact ml_ret rfl (r_z (Or.inr rfl)) (⟨⟨_, rfl, Or.inr rfl⟩, hS22⟩)
    · have c_51 : ¬ (u23 = u28) := of_decide_eq_false c_51
      refine ml_st (S' := (55, [(0, .ref r)], [.ref r], M18)) rfl rfl rfl ?_
      refine tg_ref (S' := (58, [(0, .ref r)], [.ref vd], M18)) rfl hS22.1 hY0 (by decide) rfl rfl ?_
      refine ml_blk 2 (S' := (61, [(0, .ref r)], [.ref r, .int 8, .ref vd], M18)) rfl ?_
      refine ml_get (S' := (64, [(0, .ref r)], [.int u23, .int 8, .ref vd], M18)) rfl g24 rfl ?_
      refine ml_call (a := [.ref vd, .int 8, .int u23]) (rest := []) rfl (okc_t rfl rfl rfl hS22.1 hY3 (by decide)) rfl rfl (tw_Ve_wrong hS22.1 hY3 (by omega)) (fun v29 M30 h31 => ?_)
      obtain ⟨rfl, h31⟩ := h31
      have hS33 := hS22.tr h31.1
      show ml _ _ _ (67, [(0, .ref r)], [.int 0], M30) _
      refine ml_if (S1 := (74, [(0, .ref r)], [], M30)) (S2 := (70, [], [], M30)) rfl rfl rfl (fun c_67 => ?_) (fun c_67 => ?_)
      · have c_67 : 0 = 0 := of_decide_eq_true c_67
        refine ml_st (S' := (75, [], [.int 0], M30)) rfl rfl rfl ?_
        exact ml_ret rfl (r_z (Or.inl rfl)) (⟨⟨_, rfl, Or.inl rfl⟩, hS33⟩)
      · have c_67 : ¬ (0 = 0) := of_decide_eq_false c_67
        refine ml_st (S' := (71, [], [.int 1], M30)) rfl rfl rfl ?_
        refine ml_st (S' := (75, [], [.int 1], M30)) rfl rfl rfl ?_
        exact ml_ret rfl (r_z (Or.inr rfl)) (⟨⟨_, rfl, Or.inr rfl⟩, hS33⟩)
  · have c_35 : ¬ (¬ u20 = 0) := of_decide_eq_false c_35
    refine ml_st (S' := (39, [(0, .ref r)], [.int 0], M18)) rfl rfl rfl ?_
    exact ml_ret rfl (r_z (Or.inl rfl)) (⟨⟨_, rfl, Or.inl rfl⟩, hS22⟩)
end
section
/-! the pool is read (laid by wip/p2/c50.py) -/
theorem WF.prows {g : xe_G} {Y : yT} {M : mi_H} {p n m t tp f s sh ch : Nat} (h : WF g Y M) (hY : Y.1 p = some (7, [n, m, t, tp, f, s, sh, ch])) : Y.1 t = some (31, [n, p]) ∧ Y.1 tp = some (32, [n, p]) ∧ Y.1 f = some (33, [n, p]) ∧ Y.1 s = some (34, [n, p]) ∧ Y.1 sh = some (35, [n, p]) ∧ Y.1 ch = some (36, [m, p]) := h.lnk hY (by decide)
theorem TG.fr {M M' : mi_H} {t : Nat} {k x : Int32} (h : TG M t k x) (h1 : M'.1 t = M.1 t) : TG M' t k x := fun n f1 h2 => h n f1 (h1.symm.trans h2)
theorem WF.ccb {g : xe_G} {Y : yT} {M : mi_H} {p : Nat} {pp : List Nat} {cc : Int32} (h : WF g Y M) (hY : Y.1 p = some (7, pp)) (hg : mi_gf M p 7 7 = some (.int cc)) : 0 ≤ cc.toInt ∧ cc.toInt < 1073741824 := by
  obtain ⟨size, n, m, q, f, cc', hP, hT, hn, hm, -⟩ := h.pool hY
  have : mi_gf M p 7 7 = some (.int cc') := gf_ob hP.1 rfl
  rw [this] at hg
  cases hg
  exact ⟨hT.1, by have := hT.2.1; omega⟩

set_option maxHeartbeats 2000000 in
theorem tr_takesIndexes {g : xe_G} {M : mi_H} {Y : yT} {r c b vd n da p np mp t tp f s sh ch : Nat} {x1 x2 : Int32} {a0 : Int32} (hW : WF g Y M) (hY0 : Y.1 r = some (9, [c, b, vd, n])) (hY1 : Y.1 c = some (3, [b, da, n])) (hY2 : Y.1 b = some (1, [da, n])) (hY3 : Y.1 vd = some (10, [])) (hY4 : Y.1 p = some (7, [np, mp, t, tp, f, s, sh, ch])) (hr3 : mi_gf M r 9 3 = some (.int a0)) (hcp : mi_gf M c 3 1 = some (.ref p)) (hnt : x2 ≠ 1) (htg : TG M t x1 x2) {d : Nat} (hd : 3 ≤ d) : mt (mT g) d 166 [.ref r, .int x1, .int x2] M (fun v M' => (∃ x : Int32, v = some (.int x) ∧ (x = 0 ∨ x = 1 ∧ (∀ k : Int32, x1.toInt < k.toInt → TZ M f s k → TZ M' f s k))) ∧ sf g Y [r, vd, f, s] M M') := by
  obtain ⟨d, rfl⟩ : ∃ e, d = e + 1 := ⟨d - 1, by omega⟩
  have hS : sf g Y [r, vd, f, s] M M := sf.rf hW
  refine mt_in (b := mb_166 g) rfl rfl ?_
  show ml (mT g) d (mb_166 g).2 (0, [(0, .ref r), (1, .int x1), (2, .int x2)], [], M) _
  obtain ⟨h0, h1⟩ := hW.rdb hY0 hr3
  have hn := hW.bn hY2
  obtain ⟨hyt, hytp, hyf, hys, hysh, hych⟩ := hW.prows hY4
  have hF : sf g Y [r, vd] M M := sf.rf hW
  refine ml_blk 3 (S' := (4, [(0, .ref r), (1, .int x1), (2, .int x2)], [.int 15, .int x2, .ref r], M)) rfl ?_
  refine ml_if2 (S1 := (11, [(0, .ref r), (1, .int x1), (2, .int x2)], [.ref r], M)) (S2 := (7, [(0, .ref r), (1, .int x1), (2, .int x2)], [.ref r], M)) rfl rfl rfl (fun c_4 => ?_) (fun c_4 => ?_)
  · have c_4 : ¬ x2 = 15 := of_decide_eq_true c_4
    refine ml_st (S' := (12, [(0, .ref r), (1, .int x1), (2, .int x2)], [.int 2, .ref r], M)) rfl rfl rfl ?_
    refine ml_call (a := [.ref r, .int 2]) (rest := []) rfl (okc_t rfl rfl rfl hS.1.1 hY0 (by decide)) rfl rfl (tr_takes hS.1.1 hY0 hY1 hY2 hY3 hr3 (by decide) (by omega)) (fun v1 M2 h3 => ?_)
    obtain ⟨⟨u4, rfl, z5⟩, h3⟩ := h3
    have g6 := h3.2.gf (nin_cons (ykne hY1 hY0 (by decide)) (nin_cons (ykne hY1 hY3 (by decide)) nin_nil)) hcp
    have hS7 := hS.tr h3 (by simp)
    have hF8 := hF.tr h3 (by simp)
    show ml _ _ _ (15, [(0, .ref r), (1, .int x1), (2, .int x2)], [.int u4], M2) _
    refine ml_if (S1 := (20, [(0, .ref r), (1, .int x1), (2, .int x2)], [], M2)) (S2 := (18, [(0, .ref r), (1, .int x1), (2, .int x2)], [], M2)) rfl rfl rfl (fun c_15 => ?_) (fun c_15 => ?_)
    · have c_15 : ¬ u4 = 0 := of_decide_eq_true c_15
      refine ml_st (S' := (21, [(0, .ref r), (1, .int x1), (2, .int x2)], [.ref r], M2)) rfl rfl rfl ?_
      refine tg_int rfl hS7.1.1 hY0 (by decide) rfl (fun u9 g10 => ?_)
      show ml _ _ _ (24, [(0, .ref r), (1, .int x1), (2, .int x2)], [.int u9], M2) _
      refine ml_st (S' := (25, [(3, .int u9), (0, .ref r), (1, .int x1), (2, .int x2)], [], M2)) rfl rfl rfl ?_
      refine ml_st (S' := (26, [(3, .int u9), (0, .ref r), (1, .int x1), (2, .int x2)], [.int 0], M2)) rfl rfl rfl ?_
      refine ml_st (S' := (28, [(4, .int 0), (3, .int u9), (0, .ref r), (1, .int x1), (2, .int x2)], [], M2)) rfl rfl rfl ?_
      refine ml_blk 2 (S' := (31, [(4, .int 0), (3, .int u9), (0, .ref r), (1, .int x1), (2, .int x2)], [.int 7, .int x2], M2)) rfl ?_
      refine ml_if2 (S1 := (74, [(0, .ref r), (1, .int x1), (3, .int u9), (4, .int 0)], [], M2)) (S2 := (34, [(4, .int 0), (3, .int u9), (0, .ref r), (1, .int x1), (2, .int x2)], [], M2)) rfl rfl rfl (fun c_31 => ?_) (fun c_31 => ?_)
      · have c_31 : x2 = 7 := of_decide_eq_true c_31
        refine ml_st (S' := (75, [(0, .ref r), (1, .int x1), (3, .int u9), (4, .int 0)], [.ref r], M2)) rfl rfl rfl ?_
        refine tg_ref (S' := (78, [(0, .ref r), (1, .int x1), (3, .int u9), (4, .int 0)], [.ref c], M2)) rfl hS7.1.1 hY0 (by decide) rfl rfl ?_
        refine ml_get (S' := (81, [(0, .ref r), (1, .int x1), (3, .int u9), (4, .int 0)], [.ref p], M2)) rfl g6 rfl ?_
        refine ml_blk 3 (S' := (85, [(0, .ref r), (1, .int x1), (3, .int u9), (4, .int 0)], [.int 0, .int u9, .int x1, .ref p], M2)) rfl ?_
        have h11 : M2.1 t = M.1 t := hS7.2 t (nin_cons (ykne hyt hY0 (by decide)) (nin_cons (ykne hyt hY3 (by decide)) (nin_cons (ykne hyt hyf (by decide)) (nin_cons (ykne hyt hys (by decide)) nin_nil))))
        have h12 : M2.1 f = M.1 f := hF8.2 f (nin_cons (ykne hyf hY0 (by decide)) (nin_cons (ykne hyf hY3 (by decide)) nin_nil))
        have h13 : M2.1 s = M.1 s := hF8.2 s (nin_cons (ykne hys hY0 (by decide)) (nin_cons (ykne hys hY3 (by decide)) nin_nil))
        refine ml_call (a := [.ref p, .int x1, .int u9, .int 0]) (rest := []) rfl (okc_t rfl rfl rfl hS7.1.1 hY4 (by decide)) rfl rfl (tm_setNumbers hS7.1.1 hY4 (Or.inl ⟨x2, hnt, htg.fr h11⟩) (by omega)) (fun v14 M15 h16 => ?_)
        obtain ⟨rfl, h18, h19, h20⟩ := h16
        have h21 : sf g Y [f, s] _ _ := ⟨h18, h19⟩
        have g22 := h21.2.gf (nin_cons (ykne hY1 hyf (by decide)) (nin_cons (ykne hY1 hys (by decide)) nin_nil)) g6
        have g23 := h21.2.gf (nin_cons (ykne hY0 hyf (by decide)) (nin_cons (ykne hY0 hys (by decide)) nin_nil)) g10
        have hS24 := hS7.tr h21 (by simp)
        show ml _ _ _ (88, [(0, .ref r), (1, .int x1), (3, .int u9), (4, .int 0)], [], M15) _
        refine ml_st (S' := (89, [(0, .ref r), (1, .int x1), (3, .int u9), (4, .int 0)], [.int 1], M15)) rfl rfl rfl ?_
        exact ml_ret rfl (r_z (Or.inr rfl)) (⟨⟨_, rfl, Or.inr ⟨rfl, fun k hk hz => h20 k hk (hz.fr h12 h13)⟩⟩, hS24⟩)
      · have c_31 : ¬ (x2 = 7) := of_decide_eq_false c_31
        refine ml_blk 2 (S' := (37, [(4, .int 0), (3, .int u9), (0, .ref r), (1, .int x1), (2, .int x2)], [.int 8, .int x2], M2)) rfl ?_
        refine ml_if2 (S1 := (74, [(0, .ref r), (1, .int x1), (3, .int u9), (4, .int 0)], [], M2)) (S2 := (40, [(4, .int 0), (3, .int u9), (0, .ref r), (1, .int x1), (2, .int x2)], [], M2)) rfl rfl rfl (fun c_37 => ?_) (fun c_37 => ?_)
        · have c_37 : x2 = 8 := of_decide_eq_true c_37
          refine ml_st (S' := (75, [(0, .ref r), (1, .int x1), (3, .int u9), (4, .int 0)], [.ref r], M2)) rfl rfl rfl ?_
          refine tg_ref (S' := (78, [(0, .ref r), (1, .int x1), (3, .int u9), (4, .int 0)], [.ref c], M2)) rfl hS7.1.1 hY0 (by decide) rfl rfl ?_
          refine ml_get (S' := (81, [(0, .ref r), (1, .int x1), (3, .int u9), (4, .int 0)], [.ref p], M2)) rfl g6 rfl ?_
          refine ml_blk 3 (S' := (85, [(0, .ref r), (1, .int x1), (3, .int u9), (4, .int 0)], [.int 0, .int u9, .int x1, .ref p], M2)) rfl ?_
          have h25 : M2.1 t = M.1 t := hS7.2 t (nin_cons (ykne hyt hY0 (by decide)) (nin_cons (ykne hyt hY3 (by decide)) (nin_cons (ykne hyt hyf (by decide)) (nin_cons (ykne hyt hys (by decide)) nin_nil))))
          have h26 : M2.1 f = M.1 f := hF8.2 f (nin_cons (ykne hyf hY0 (by decide)) (nin_cons (ykne hyf hY3 (by decide)) nin_nil))
          have h27 : M2.1 s = M.1 s := hF8.2 s (nin_cons (ykne hys hY0 (by decide)) (nin_cons (ykne hys hY3 (by decide)) nin_nil))
          refine ml_call (a := [.ref p, .int x1, .int u9, .int 0]) (rest := []) rfl (okc_t rfl rfl rfl hS7.1.1 hY4 (by decide)) rfl rfl (tm_setNumbers hS7.1.1 hY4 (Or.inl ⟨x2, hnt, htg.fr h25⟩) (by omega)) (fun v28 M29 h30 => ?_)
          obtain ⟨rfl, h32, h33, h34⟩ := h30
          have h35 : sf g Y [f, s] _ _ := ⟨h32, h33⟩
          have g36 := h35.2.gf (nin_cons (ykne hY1 hyf (by decide)) (nin_cons (ykne hY1 hys (by decide)) nin_nil)) g6
          have g37 := h35.2.gf (nin_cons (ykne hY0 hyf (by decide)) (nin_cons (ykne hY0 hys (by decide)) nin_nil)) g10
          have hS38 := hS7.tr h35 (by simp)
          show ml _ _ _ (88, [(0, .ref r), (1, .int x1), (3, .int u9), (4, .int 0)], [], M29) _
          refine ml_st (S' := (89, [(0, .ref r), (1, .int x1), (3, .int u9), (4, .int 0)], [.int 1], M29)) rfl rfl rfl ?_
          exact ml_ret rfl (r_z (Or.inr rfl)) (⟨⟨_, rfl, Or.inr ⟨rfl, fun k hk hz => h34 k hk (hz.fr h26 h27)⟩⟩, hS38⟩)
        · have c_37 : ¬ (x2 = 8) := of_decide_eq_false c_37
          refine ml_blk 2 (S' := (43, [(4, .int 0), (3, .int u9), (0, .ref r), (1, .int x1), (2, .int x2)], [.int 16, .int x2], M2)) rfl ?_
          refine ml_if2 (S1 := (74, [(0, .ref r), (1, .int x1), (3, .int u9), (4, .int 0)], [], M2)) (S2 := (46, [(4, .int 0), (3, .int u9), (0, .ref r), (1, .int x1), (2, .int x2)], [], M2)) rfl rfl rfl (fun c_43 => ?_) (fun c_43 => ?_)
          · have c_43 : x2 = 16 := of_decide_eq_true c_43
            refine ml_st (S' := (75, [(0, .ref r), (1, .int x1), (3, .int u9), (4, .int 0)], [.ref r], M2)) rfl rfl rfl ?_
            refine tg_ref (S' := (78, [(0, .ref r), (1, .int x1), (3, .int u9), (4, .int 0)], [.ref c], M2)) rfl hS7.1.1 hY0 (by decide) rfl rfl ?_
            refine ml_get (S' := (81, [(0, .ref r), (1, .int x1), (3, .int u9), (4, .int 0)], [.ref p], M2)) rfl g6 rfl ?_
            refine ml_blk 3 (S' := (85, [(0, .ref r), (1, .int x1), (3, .int u9), (4, .int 0)], [.int 0, .int u9, .int x1, .ref p], M2)) rfl ?_
            have h39 : M2.1 t = M.1 t := hS7.2 t (nin_cons (ykne hyt hY0 (by decide)) (nin_cons (ykne hyt hY3 (by decide)) (nin_cons (ykne hyt hyf (by decide)) (nin_cons (ykne hyt hys (by decide)) nin_nil))))
            have h40 : M2.1 f = M.1 f := hF8.2 f (nin_cons (ykne hyf hY0 (by decide)) (nin_cons (ykne hyf hY3 (by decide)) nin_nil))
            have h41 : M2.1 s = M.1 s := hF8.2 s (nin_cons (ykne hys hY0 (by decide)) (nin_cons (ykne hys hY3 (by decide)) nin_nil))
            refine ml_call (a := [.ref p, .int x1, .int u9, .int 0]) (rest := []) rfl (okc_t rfl rfl rfl hS7.1.1 hY4 (by decide)) rfl rfl (tm_setNumbers hS7.1.1 hY4 (Or.inl ⟨x2, hnt, htg.fr h39⟩) (by omega)) (fun v42 M43 h44 => ?_)
            obtain ⟨rfl, h46, h47, h48⟩ := h44
            have h49 : sf g Y [f, s] _ _ := ⟨h46, h47⟩
            have g50 := h49.2.gf (nin_cons (ykne hY1 hyf (by decide)) (nin_cons (ykne hY1 hys (by decide)) nin_nil)) g6
            have g51 := h49.2.gf (nin_cons (ykne hY0 hyf (by decide)) (nin_cons (ykne hY0 hys (by decide)) nin_nil)) g10
            have hS52 := hS7.tr h49 (by simp)
            show ml _ _ _ (88, [(0, .ref r), (1, .int x1), (3, .int u9), (4, .int 0)], [], M43) _
            refine ml_st (S' := (89, [(0, .ref r), (1, .int x1), (3, .int u9), (4, .int 0)], [.int 1], M43)) rfl rfl rfl ?_
            exact ml_ret rfl (r_z (Or.inr rfl)) (⟨⟨_, rfl, Or.inr ⟨rfl, fun k hk hz => h48 k hk (hz.fr h40 h41)⟩⟩, hS52⟩)
          · have c_43 : ¬ (x2 = 16) := of_decide_eq_false c_43
            refine ml_blk 2 (S' := (49, [(4, .int 0), (3, .int u9), (0, .ref r), (1, .int x1), (2, .int x2)], [.int 19, .int x2], M2)) rfl ?_
            refine ml_if2 (S1 := (74, [(0, .ref r), (1, .int x1), (3, .int u9), (4, .int 0)], [], M2)) (S2 := (52, [(4, .int 0), (3, .int u9), (0, .ref r), (1, .int x1), (2, .int x2)], [], M2)) rfl rfl rfl (fun c_49 => ?_) (fun c_49 => ?_)
            · have c_49 : x2 = 19 := of_decide_eq_true c_49
              refine ml_st (S' := (75, [(0, .ref r), (1, .int x1), (3, .int u9), (4, .int 0)], [.ref r], M2)) rfl rfl rfl ?_
              refine tg_ref (S' := (78, [(0, .ref r), (1, .int x1), (3, .int u9), (4, .int 0)], [.ref c], M2)) rfl hS7.1.1 hY0 (by decide) rfl rfl ?_
              refine ml_get (S' := (81, [(0, .ref r), (1, .int x1), (3, .int u9), (4, .int 0)], [.ref p], M2)) rfl g6 rfl ?_
              refine ml_blk 3 (S' := (85, [(0, .ref r), (1, .int x1), (3, .int u9), (4, .int 0)], [.int 0, .int u9, .int x1, .ref p], M2)) rfl ?_
              have h53 : M2.1 t = M.1 t := hS7.2 t (nin_cons (ykne hyt hY0 (by decide)) (nin_cons (ykne hyt hY3 (by decide)) (nin_cons (ykne hyt hyf (by decide)) (nin_cons (ykne hyt hys (by decide)) nin_nil))))
              have h54 : M2.1 f = M.1 f := hF8.2 f (nin_cons (ykne hyf hY0 (by decide)) (nin_cons (ykne hyf hY3 (by decide)) nin_nil))
              have h55 : M2.1 s = M.1 s := hF8.2 s (nin_cons (ykne hys hY0 (by decide)) (nin_cons (ykne hys hY3 (by decide)) nin_nil))
              refine ml_call (a := [.ref p, .int x1, .int u9, .int 0]) (rest := []) rfl (okc_t rfl rfl rfl hS7.1.1 hY4 (by decide)) rfl rfl (tm_setNumbers hS7.1.1 hY4 (Or.inl ⟨x2, hnt, htg.fr h53⟩) (by omega)) (fun v56 M57 h58 => ?_)
              obtain ⟨rfl, h60, h61, h62⟩ := h58
              have h63 : sf g Y [f, s] _ _ := ⟨h60, h61⟩
              have g64 := h63.2.gf (nin_cons (ykne hY1 hyf (by decide)) (nin_cons (ykne hY1 hys (by decide)) nin_nil)) g6
              have g65 := h63.2.gf (nin_cons (ykne hY0 hyf (by decide)) (nin_cons (ykne hY0 hys (by decide)) nin_nil)) g10
              have hS66 := hS7.tr h63 (by simp)
              show ml _ _ _ (88, [(0, .ref r), (1, .int x1), (3, .int u9), (4, .int 0)], [], M57) _
              refine ml_st (S' := (89, [(0, .ref r), (1, .int x1), (3, .int u9), (4, .int 0)], [.int 1], M57)) rfl rfl rfl ?_
              exact ml_ret rfl (r_z (Or.inr rfl)) (⟨⟨_, rfl, Or.inr ⟨rfl, fun k hk hz => h62 k hk (hz.fr h54 h55)⟩⟩, hS66⟩)
            · have c_49 : ¬ (x2 = 19) := of_decide_eq_false c_49
              refine ml_blk 2 (S' := (55, [(4, .int 0), (3, .int u9), (0, .ref r), (1, .int x1), (2, .int x2)], [.int 20, .int x2], M2)) rfl ?_
              refine ml_if2 (S1 := (74, [(0, .ref r), (1, .int x1), (3, .int u9), (4, .int 0)], [], M2)) (S2 := (58, [(4, .int 0), (3, .int u9), (0, .ref r), (1, .int x1), (2, .int x2)], [], M2)) rfl rfl rfl (fun c_55 => ?_) (fun c_55 => ?_)
              · have c_55 : x2 = 20 := of_decide_eq_true c_55
                refine ml_st (S' := (75, [(0, .ref r), (1, .int x1), (3, .int u9), (4, .int 0)], [.ref r], M2)) rfl rfl rfl ?_
                refine tg_ref (S' := (78, [(0, .ref r), (1, .int x1), (3, .int u9), (4, .int 0)], [.ref c], M2)) rfl hS7.1.1 hY0 (by decide) rfl rfl ?_
                refine ml_get (S' := (81, [(0, .ref r), (1, .int x1), (3, .int u9), (4, .int 0)], [.ref p], M2)) rfl g6 rfl ?_
                refine ml_blk 3 (S' := (85, [(0, .ref r), (1, .int x1), (3, .int u9), (4, .int 0)], [.int 0, .int u9, .int x1, .ref p], M2)) rfl ?_
                have h67 : M2.1 t = M.1 t := hS7.2 t (nin_cons (ykne hyt hY0 (by decide)) (nin_cons (ykne hyt hY3 (by decide)) (nin_cons (ykne hyt hyf (by decide)) (nin_cons (ykne hyt hys (by decide)) nin_nil))))
                have h68 : M2.1 f = M.1 f := hF8.2 f (nin_cons (ykne hyf hY0 (by decide)) (nin_cons (ykne hyf hY3 (by decide)) nin_nil))
                have h69 : M2.1 s = M.1 s := hF8.2 s (nin_cons (ykne hys hY0 (by decide)) (nin_cons (ykne hys hY3 (by decide)) nin_nil))
                refine ml_call (a := [.ref p, .int x1, .int u9, .int 0]) (rest := []) rfl (okc_t rfl rfl rfl hS7.1.1 hY4 (by decide)) rfl rfl (tm_setNumbers hS7.1.1 hY4 (Or.inl ⟨x2, hnt, htg.fr h67⟩) (by omega)) (fun v70 M71 h72 => ?_)
                obtain ⟨rfl, h74, h75, h76⟩ := h72
                have h77 : sf g Y [f, s] _ _ := ⟨h74, h75⟩
                have g78 := h77.2.gf (nin_cons (ykne hY1 hyf (by decide)) (nin_cons (ykne hY1 hys (by decide)) nin_nil)) g6
                have g79 := h77.2.gf (nin_cons (ykne hY0 hyf (by decide)) (nin_cons (ykne hY0 hys (by decide)) nin_nil)) g10
                have hS80 := hS7.tr h77 (by simp)
                show ml _ _ _ (88, [(0, .ref r), (1, .int x1), (3, .int u9), (4, .int 0)], [], M71) _
                refine ml_st (S' := (89, [(0, .ref r), (1, .int x1), (3, .int u9), (4, .int 0)], [.int 1], M71)) rfl rfl rfl ?_
                exact ml_ret rfl (r_z (Or.inr rfl)) (⟨⟨_, rfl, Or.inr ⟨rfl, fun k hk hz => h76 k hk (hz.fr h68 h69)⟩⟩, hS80⟩)
              · have c_55 : ¬ (x2 = 20) := of_decide_eq_false c_55
                refine ml_blk 2 (S' := (60, [(4, .int 0), (3, .int u9), (0, .ref r), (1, .int x1), (2, .int x2)], [.int 2, .ref r], M2)) rfl ?_
                obtain ⟨u81, g82, -⟩ := hS7.1.1.rd hY0
                refine ml_call (a := [.ref r, .int 2]) (rest := []) rfl (okc_t rfl rfl rfl hS7.1.1 hY0 (by decide)) rfl rfl (tr_takes hS7.1.1 hY0 hY1 hY2 hY3 g82 (by decide) (by omega)) (fun v83 M84 h85 => ?_)
                obtain ⟨⟨u86, rfl, z87⟩, h85⟩ := h85
                have g88 := h85.2.gf (nin_cons (ykne hY1 hY0 (by decide)) (nin_cons (ykne hY1 hY3 (by decide)) nin_nil)) g6
                have hS89 := hS7.tr h85 (by simp)
                have hF90 := hF8.tr h85 (by simp)
                show ml _ _ _ (63, [(4, .int 0), (3, .int u9), (0, .ref r), (1, .int x1), (2, .int x2)], [.int u86], M84) _
                refine ml_if (S1 := (68, [(4, .int 0), (3, .int u9), (0, .ref r), (1, .int x1), (2, .int x2)], [], M84)) (S2 := (66, [(4, .int 0), (3, .int u9), (0, .ref r), (1, .int x1), (2, .int x2)], [], M84)) rfl rfl rfl (fun c_63 => ?_) (fun c_63 => ?_)
                · have c_63 : ¬ u86 = 0 := of_decide_eq_true c_63
                  refine ml_st (S' := (69, [(4, .int 0), (3, .int u9), (0, .ref r), (1, .int x1), (2, .int x2)], [.ref r], M84)) rfl rfl rfl ?_
                  refine tg_int rfl hS89.1.1 hY0 (by decide) rfl (fun u91 g92 => ?_)
                  show ml _ _ _ (72, [(4, .int 0), (3, .int u9), (0, .ref r), (1, .int x1), (2, .int x2)], [.int u91], M84) _
                  refine ml_st (S' := (74, [(0, .ref r), (1, .int x1), (3, .int u9), (4, .int u91)], [], M84)) rfl rfl rfl ?_
                  refine ml_st (S' := (75, [(0, .ref r), (1, .int x1), (3, .int u9), (4, .int u91)], [.ref r], M84)) rfl rfl rfl ?_
                  refine tg_ref (S' := (78, [(0, .ref r), (1, .int x1), (3, .int u9), (4, .int u91)], [.ref c], M84)) rfl hS89.1.1 hY0 (by decide) rfl rfl ?_
                  refine ml_get (S' := (81, [(0, .ref r), (1, .int x1), (3, .int u9), (4, .int u91)], [.ref p], M84)) rfl g88 rfl ?_
                  refine ml_blk 3 (S' := (85, [(0, .ref r), (1, .int x1), (3, .int u9), (4, .int u91)], [.int u91, .int u9, .int x1, .ref p], M84)) rfl ?_
                  have h93 : M84.1 t = M.1 t := hS89.2 t (nin_cons (ykne hyt hY0 (by decide)) (nin_cons (ykne hyt hY3 (by decide)) (nin_cons (ykne hyt hyf (by decide)) (nin_cons (ykne hyt hys (by decide)) nin_nil))))
                  have h94 : M84.1 f = M.1 f := hF90.2 f (nin_cons (ykne hyf hY0 (by decide)) (nin_cons (ykne hyf hY3 (by decide)) nin_nil))
                  have h95 : M84.1 s = M.1 s := hF90.2 s (nin_cons (ykne hys hY0 (by decide)) (nin_cons (ykne hys hY3 (by decide)) nin_nil))
                  refine ml_call (a := [.ref p, .int x1, .int u9, .int u91]) (rest := []) rfl (okc_t rfl rfl rfl hS89.1.1 hY4 (by decide)) rfl rfl (tm_setNumbers hS89.1.1 hY4 (Or.inl ⟨x2, hnt, htg.fr h93⟩) (by omega)) (fun v96 M97 h98 => ?_)
                  obtain ⟨rfl, h100, h101, h102⟩ := h98
                  have h103 : sf g Y [f, s] _ _ := ⟨h100, h101⟩
                  have g104 := h103.2.gf (nin_cons (ykne hY1 hyf (by decide)) (nin_cons (ykne hY1 hys (by decide)) nin_nil)) g88
                  have g105 := h103.2.gf (nin_cons (ykne hY0 hyf (by decide)) (nin_cons (ykne hY0 hys (by decide)) nin_nil)) g92
                  have hS106 := hS89.tr h103 (by simp)
                  show ml _ _ _ (88, [(0, .ref r), (1, .int x1), (3, .int u9), (4, .int u91)], [], M97) _
                  refine ml_st (S' := (89, [(0, .ref r), (1, .int x1), (3, .int u9), (4, .int u91)], [.int 1], M97)) rfl rfl rfl ?_
                  exact ml_ret rfl (r_z (Or.inr rfl)) (⟨⟨_, rfl, Or.inr ⟨rfl, fun k hk hz => h102 k hk (hz.fr h94 h95)⟩⟩, hS106⟩)
                · have c_63 : ¬ (¬ u86 = 0) := of_decide_eq_false c_63
                  refine ml_st (S' := (67, [(4, .int 0), (3, .int u9), (0, .ref r), (1, .int x1), (2, .int x2)], [.int 0], M84)) rfl rfl rfl ?_
                  exact ml_ret rfl (r_z (Or.inl rfl)) (⟨⟨_, rfl, Or.inl rfl⟩, hS89⟩)
    · have c_15 : ¬ (¬ u4 = 0) := of_decide_eq_false c_15
      refine ml_st (S' := (19, [(0, .ref r), (1, .int x1), (2, .int x2)], [.int 0], M2)) rfl rfl rfl ?_
      exact ml_ret rfl (r_z (Or.inl rfl)) (⟨⟨_, rfl, Or.inl rfl⟩, hS7⟩)
  · have c_4 : ¬ (¬ x2 = 15) := of_decide_eq_false c_4
    refine ml_st (S' := (8, [(0, .ref r), (1, .int x1), (2, .int x2)], [.int 1, .ref r], M)) rfl rfl rfl ?_
    refine ml_st (S' := (12, [(0, .ref r), (1, .int x1), (2, .int x2)], [.int 1, .ref r], M)) rfl rfl rfl ?_
    refine ml_call (a := [.ref r, .int 1]) (rest := []) rfl (okc_t rfl rfl rfl hS.1.1 hY0 (by decide)) rfl rfl (tr_takes hS.1.1 hY0 hY1 hY2 hY3 hr3 (by decide) (by omega)) (fun v107 M108 h109 => ?_)
    obtain ⟨⟨u110, rfl, z111⟩, h109⟩ := h109
    have g112 := h109.2.gf (nin_cons (ykne hY1 hY0 (by decide)) (nin_cons (ykne hY1 hY3 (by decide)) nin_nil)) hcp
    have hS113 := hS.tr h109 (by simp)
    have hF114 := hF.tr h109 (by simp)
    show ml _ _ _ (15, [(0, .ref r), (1, .int x1), (2, .int x2)], [.int u110], M108) _
    refine ml_if (S1 := (20, [(0, .ref r), (1, .int x1), (2, .int x2)], [], M108)) (S2 := (18, [(0, .ref r), (1, .int x1), (2, .int x2)], [], M108)) rfl rfl rfl (fun c_15 => ?_) (fun c_15 => ?_)
    · have c_15 : ¬ u110 = 0 := of_decide_eq_true c_15
      refine ml_st (S' := (21, [(0, .ref r), (1, .int x1), (2, .int x2)], [.ref r], M108)) rfl rfl rfl ?_
      refine tg_int rfl hS113.1.1 hY0 (by decide) rfl (fun u115 g116 => ?_)
      show ml _ _ _ (24, [(0, .ref r), (1, .int x1), (2, .int x2)], [.int u115], M108) _
      refine ml_st (S' := (25, [(3, .int u115), (0, .ref r), (1, .int x1), (2, .int x2)], [], M108)) rfl rfl rfl ?_
      refine ml_st (S' := (26, [(3, .int u115), (0, .ref r), (1, .int x1), (2, .int x2)], [.int 0], M108)) rfl rfl rfl ?_
      refine ml_st (S' := (28, [(4, .int 0), (3, .int u115), (0, .ref r), (1, .int x1), (2, .int x2)], [], M108)) rfl rfl rfl ?_
      refine ml_blk 2 (S' := (31, [(4, .int 0), (3, .int u115), (0, .ref r), (1, .int x1), (2, .int x2)], [.int 7, .int x2], M108)) rfl ?_
      refine ml_if2 (S1 := (74, [(0, .ref r), (1, .int x1), (3, .int u115), (4, .int 0)], [], M108)) (S2 := (34, [(4, .int 0), (3, .int u115), (0, .ref r), (1, .int x1), (2, .int x2)], [], M108)) rfl rfl rfl (fun c_31 => ?_) (fun c_31 => ?_)
      · have c_31 : x2 = 7 := of_decide_eq_true c_31
        refine ml_st (S' := (75, [(0, .ref r), (1, .int x1), (3, .int u115), (4, .int 0)], [.ref r], M108)) rfl rfl rfl ?_
        refine tg_ref (S' := (78, [(0, .ref r), (1, .int x1), (3, .int u115), (4, .int 0)], [.ref c], M108)) rfl hS113.1.1 hY0 (by decide) rfl rfl ?_
        refine ml_get (S' := (81, [(0, .ref r), (1, .int x1), (3, .int u115), (4, .int 0)], [.ref p], M108)) rfl g112 rfl ?_
        refine ml_blk 3 (S' := (85, [(0, .ref r), (1, .int x1), (3, .int u115), (4, .int 0)], [.int 0, .int u115, .int x1, .ref p], M108)) rfl ?_
        have h117 : M108.1 t = M.1 t := hS113.2 t (nin_cons (ykne hyt hY0 (by decide)) (nin_cons (ykne hyt hY3 (by decide)) (nin_cons (ykne hyt hyf (by decide)) (nin_cons (ykne hyt hys (by decide)) nin_nil))))
        have h118 : M108.1 f = M.1 f := hF114.2 f (nin_cons (ykne hyf hY0 (by decide)) (nin_cons (ykne hyf hY3 (by decide)) nin_nil))
        have h119 : M108.1 s = M.1 s := hF114.2 s (nin_cons (ykne hys hY0 (by decide)) (nin_cons (ykne hys hY3 (by decide)) nin_nil))
        refine ml_call (a := [.ref p, .int x1, .int u115, .int 0]) (rest := []) rfl (okc_t rfl rfl rfl hS113.1.1 hY4 (by decide)) rfl rfl (tm_setNumbers hS113.1.1 hY4 (Or.inl ⟨x2, hnt, htg.fr h117⟩) (by omega)) (fun v120 M121 h122 => ?_)
        obtain ⟨rfl, h124, h125, h126⟩ := h122
        have h127 : sf g Y [f, s] _ _ := ⟨h124, h125⟩
        have g128 := h127.2.gf (nin_cons (ykne hY1 hyf (by decide)) (nin_cons (ykne hY1 hys (by decide)) nin_nil)) g112
        have g129 := h127.2.gf (nin_cons (ykne hY0 hyf (by decide)) (nin_cons (ykne hY0 hys (by decide)) nin_nil)) g116
        have hS130 := hS113.tr h127 (by simp)
        show ml _ _ _ (88, [(0, .ref r), (1, .int x1), (3, .int u115), (4, .int 0)], [], M121) _
        refine ml_st (S' := (89, [(0, .ref r), (1, .int x1), (3, .int u115), (4, .int 0)], [.int 1], M121)) rfl rfl rfl ?_
        exact ml_ret rfl (r_z (Or.inr rfl)) (⟨⟨_, rfl, Or.inr ⟨rfl, fun k hk hz => h126 k hk (hz.fr h118 h119)⟩⟩, hS130⟩)
      · have c_31 : ¬ (x2 = 7) := of_decide_eq_false c_31
        refine ml_blk 2 (S' := (37, [(4, .int 0), (3, .int u115), (0, .ref r), (1, .int x1), (2, .int x2)], [.int 8, .int x2], M108)) rfl ?_
        refine ml_if2 (S1 := (74, [(0, .ref r), (1, .int x1), (3, .int u115), (4, .int 0)], [], M108)) (S2 := (40, [(4, .int 0), (3, .int u115), (0, .ref r), (1, .int x1), (2, .int x2)], [], M108)) rfl rfl rfl (fun c_37 => ?_) (fun c_37 => ?_)
        · have c_37 : x2 = 8 := of_decide_eq_true c_37
          refine ml_st (S' := (75, [(0, .ref r), (1, .int x1), (3, .int u115), (4, .int 0)], [.ref r], M108)) rfl rfl rfl ?_
          refine tg_ref (S' := (78, [(0, .ref r), (1, .int x1), (3, .int u115), (4, .int 0)], [.ref c], M108)) rfl hS113.1.1 hY0 (by decide) rfl rfl ?_
          refine ml_get (S' := (81, [(0, .ref r), (1, .int x1), (3, .int u115), (4, .int 0)], [.ref p], M108)) rfl g112 rfl ?_
          refine ml_blk 3 (S' := (85, [(0, .ref r), (1, .int x1), (3, .int u115), (4, .int 0)], [.int 0, .int u115, .int x1, .ref p], M108)) rfl ?_
          have h131 : M108.1 t = M.1 t := hS113.2 t (nin_cons (ykne hyt hY0 (by decide)) (nin_cons (ykne hyt hY3 (by decide)) (nin_cons (ykne hyt hyf (by decide)) (nin_cons (ykne hyt hys (by decide)) nin_nil))))
          have h132 : M108.1 f = M.1 f := hF114.2 f (nin_cons (ykne hyf hY0 (by decide)) (nin_cons (ykne hyf hY3 (by decide)) nin_nil))
          have h133 : M108.1 s = M.1 s := hF114.2 s (nin_cons (ykne hys hY0 (by decide)) (nin_cons (ykne hys hY3 (by decide)) nin_nil))
          refine ml_call (a := [.ref p, .int x1, .int u115, .int 0]) (rest := []) rfl (okc_t rfl rfl rfl hS113.1.1 hY4 (by decide)) rfl rfl (tm_setNumbers hS113.1.1 hY4 (Or.inl ⟨x2, hnt, htg.fr h131⟩) (by omega)) (fun v134 M135 h136 => ?_)
          obtain ⟨rfl, h138, h139, h140⟩ := h136
          have h141 : sf g Y [f, s] _ _ := ⟨h138, h139⟩
          have g142 := h141.2.gf (nin_cons (ykne hY1 hyf (by decide)) (nin_cons (ykne hY1 hys (by decide)) nin_nil)) g112
          have g143 := h141.2.gf (nin_cons (ykne hY0 hyf (by decide)) (nin_cons (ykne hY0 hys (by decide)) nin_nil)) g116
          have hS144 := hS113.tr h141 (by simp)
          show ml _ _ _ (88, [(0, .ref r), (1, .int x1), (3, .int u115), (4, .int 0)], [], M135) _
          refine ml_st (S' := (89, [(0, .ref r), (1, .int x1), (3, .int u115), (4, .int 0)], [.int 1], M135)) rfl rfl rfl ?_
          exact ml_ret rfl (r_z (Or.inr rfl)) (⟨⟨_, rfl, Or.inr ⟨rfl, fun k hk hz => h140 k hk (hz.fr h132 h133)⟩⟩, hS144⟩)
        · have c_37 : ¬ (x2 = 8) := of_decide_eq_false c_37
          refine ml_blk 2 (S' := (43, [(4, .int 0), (3, .int u115), (0, .ref r), (1, .int x1), (2, .int x2)], [.int 16, .int x2], M108)) rfl ?_
          refine ml_if2 (S1 := (74, [(0, .ref r), (1, .int x1), (3, .int u115), (4, .int 0)], [], M108)) (S2 := (46, [(4, .int 0), (3, .int u115), (0, .ref r), (1, .int x1), (2, .int x2)], [], M108)) rfl rfl rfl (fun c_43 => ?_) (fun c_43 => ?_)
          · have c_43 : x2 = 16 := of_decide_eq_true c_43
            refine ml_st (S' := (75, [(0, .ref r), (1, .int x1), (3, .int u115), (4, .int 0)], [.ref r], M108)) rfl rfl rfl ?_
            refine tg_ref (S' := (78, [(0, .ref r), (1, .int x1), (3, .int u115), (4, .int 0)], [.ref c], M108)) rfl hS113.1.1 hY0 (by decide) rfl rfl ?_
            refine ml_get (S' := (81, [(0, .ref r), (1, .int x1), (3, .int u115), (4, .int 0)], [.ref p], M108)) rfl g112 rfl ?_
            refine ml_blk 3 (S' := (85, [(0, .ref r), (1, .int x1), (3, .int u115), (4, .int 0)], [.int 0, .int u115, .int x1, .ref p], M108)) rfl ?_
            have h145 : M108.1 t = M.1 t := hS113.2 t (nin_cons (ykne hyt hY0 (by decide)) (nin_cons (ykne hyt hY3 (by decide)) (nin_cons (ykne hyt hyf (by decide)) (nin_cons (ykne hyt hys (by decide)) nin_nil))))
            have h146 : M108.1 f = M.1 f := hF114.2 f (nin_cons (ykne hyf hY0 (by decide)) (nin_cons (ykne hyf hY3 (by decide)) nin_nil))
            have h147 : M108.1 s = M.1 s := hF114.2 s (nin_cons (ykne hys hY0 (by decide)) (nin_cons (ykne hys hY3 (by decide)) nin_nil))
            refine ml_call (a := [.ref p, .int x1, .int u115, .int 0]) (rest := []) rfl (okc_t rfl rfl rfl hS113.1.1 hY4 (by decide)) rfl rfl (tm_setNumbers hS113.1.1 hY4 (Or.inl ⟨x2, hnt, htg.fr h145⟩) (by omega)) (fun v148 M149 h150 => ?_)
            obtain ⟨rfl, h152, h153, h154⟩ := h150
            have h155 : sf g Y [f, s] _ _ := ⟨h152, h153⟩
            have g156 := h155.2.gf (nin_cons (ykne hY1 hyf (by decide)) (nin_cons (ykne hY1 hys (by decide)) nin_nil)) g112
            have g157 := h155.2.gf (nin_cons (ykne hY0 hyf (by decide)) (nin_cons (ykne hY0 hys (by decide)) nin_nil)) g116
            have hS158 := hS113.tr h155 (by simp)
            show ml _ _ _ (88, [(0, .ref r), (1, .int x1), (3, .int u115), (4, .int 0)], [], M149) _
            refine ml_st (S' := (89, [(0, .ref r), (1, .int x1), (3, .int u115), (4, .int 0)], [.int 1], M149)) rfl rfl rfl ?_
            exact ml_ret rfl (r_z (Or.inr rfl)) (⟨⟨_, rfl, Or.inr ⟨rfl, fun k hk hz => h154 k hk (hz.fr h146 h147)⟩⟩, hS158⟩)
          · have c_43 : ¬ (x2 = 16) := of_decide_eq_false c_43
            refine ml_blk 2 (S' := (49, [(4, .int 0), (3, .int u115), (0, .ref r), (1, .int x1), (2, .int x2)], [.int 19, .int x2], M108)) rfl ?_
            refine ml_if2 (S1 := (74, [(0, .ref r), (1, .int x1), (3, .int u115), (4, .int 0)], [], M108)) (S2 := (52, [(4, .int 0), (3, .int u115), (0, .ref r), (1, .int x1), (2, .int x2)], [], M108)) rfl rfl rfl (fun c_49 => ?_) (fun c_49 => ?_)
            · have c_49 : x2 = 19 := of_decide_eq_true c_49
              refine ml_st (S' := (75, [(0, .ref r), (1, .int x1), (3, .int u115), (4, .int 0)], [.ref r], M108)) rfl rfl rfl ?_
              refine tg_ref (S' := (78, [(0, .ref r), (1, .int x1), (3, .int u115), (4, .int 0)], [.ref c], M108)) rfl hS113.1.1 hY0 (by decide) rfl rfl ?_
              refine ml_get (S' := (81, [(0, .ref r), (1, .int x1), (3, .int u115), (4, .int 0)], [.ref p], M108)) rfl g112 rfl ?_
              refine ml_blk 3 (S' := (85, [(0, .ref r), (1, .int x1), (3, .int u115), (4, .int 0)], [.int 0, .int u115, .int x1, .ref p], M108)) rfl ?_
              have h159 : M108.1 t = M.1 t := hS113.2 t (nin_cons (ykne hyt hY0 (by decide)) (nin_cons (ykne hyt hY3 (by decide)) (nin_cons (ykne hyt hyf (by decide)) (nin_cons (ykne hyt hys (by decide)) nin_nil))))
              have h160 : M108.1 f = M.1 f := hF114.2 f (nin_cons (ykne hyf hY0 (by decide)) (nin_cons (ykne hyf hY3 (by decide)) nin_nil))
              have h161 : M108.1 s = M.1 s := hF114.2 s (nin_cons (ykne hys hY0 (by decide)) (nin_cons (ykne hys hY3 (by decide)) nin_nil))
              refine ml_call (a := [.ref p, .int x1, .int u115, .int 0]) (rest := []) rfl (okc_t rfl rfl rfl hS113.1.1 hY4 (by decide)) rfl rfl (tm_setNumbers hS113.1.1 hY4 (Or.inl ⟨x2, hnt, htg.fr h159⟩) (by omega)) (fun v162 M163 h164 => ?_)
              obtain ⟨rfl, h166, h167, h168⟩ := h164
              have h169 : sf g Y [f, s] _ _ := ⟨h166, h167⟩
              have g170 := h169.2.gf (nin_cons (ykne hY1 hyf (by decide)) (nin_cons (ykne hY1 hys (by decide)) nin_nil)) g112
              have g171 := h169.2.gf (nin_cons (ykne hY0 hyf (by decide)) (nin_cons (ykne hY0 hys (by decide)) nin_nil)) g116
              have hS172 := hS113.tr h169 (by simp)
              show ml _ _ _ (88, [(0, .ref r), (1, .int x1), (3, .int u115), (4, .int 0)], [], M163) _
              refine ml_st (S' := (89, [(0, .ref r), (1, .int x1), (3, .int u115), (4, .int 0)], [.int 1], M163)) rfl rfl rfl ?_
              exact ml_ret rfl (r_z (Or.inr rfl)) (⟨⟨_, rfl, Or.inr ⟨rfl, fun k hk hz => h168 k hk (hz.fr h160 h161)⟩⟩, hS172⟩)
            · have c_49 : ¬ (x2 = 19) := of_decide_eq_false c_49
              refine ml_blk 2 (S' := (55, [(4, .int 0), (3, .int u115), (0, .ref r), (1, .int x1), (2, .int x2)], [.int 20, .int x2], M108)) rfl ?_
              refine ml_if2 (S1 := (74, [(0, .ref r), (1, .int x1), (3, .int u115), (4, .int 0)], [], M108)) (S2 := (58, [(4, .int 0), (3, .int u115), (0, .ref r), (1, .int x1), (2, .int x2)], [], M108)) rfl rfl rfl (fun c_55 => ?_) (fun c_55 => ?_)
              · have c_55 : x2 = 20 := of_decide_eq_true c_55
                refine ml_st (S' := (75, [(0, .ref r), (1, .int x1), (3, .int u115), (4, .int 0)], [.ref r], M108)) rfl rfl rfl ?_
                refine tg_ref (S' := (78, [(0, .ref r), (1, .int x1), (3, .int u115), (4, .int 0)], [.ref c], M108)) rfl hS113.1.1 hY0 (by decide) rfl rfl ?_
                refine ml_get (S' := (81, [(0, .ref r), (1, .int x1), (3, .int u115), (4, .int 0)], [.ref p], M108)) rfl g112 rfl ?_
                refine ml_blk 3 (S' := (85, [(0, .ref r), (1, .int x1), (3, .int u115), (4, .int 0)], [.int 0, .int u115, .int x1, .ref p], M108)) rfl ?_
                have h173 : M108.1 t = M.1 t := hS113.2 t (nin_cons (ykne hyt hY0 (by decide)) (nin_cons (ykne hyt hY3 (by decide)) (nin_cons (ykne hyt hyf (by decide)) (nin_cons (ykne hyt hys (by decide)) nin_nil))))
                have h174 : M108.1 f = M.1 f := hF114.2 f (nin_cons (ykne hyf hY0 (by decide)) (nin_cons (ykne hyf hY3 (by decide)) nin_nil))
                have h175 : M108.1 s = M.1 s := hF114.2 s (nin_cons (ykne hys hY0 (by decide)) (nin_cons (ykne hys hY3 (by decide)) nin_nil))
                refine ml_call (a := [.ref p, .int x1, .int u115, .int 0]) (rest := []) rfl (okc_t rfl rfl rfl hS113.1.1 hY4 (by decide)) rfl rfl (tm_setNumbers hS113.1.1 hY4 (Or.inl ⟨x2, hnt, htg.fr h173⟩) (by omega)) (fun v176 M177 h178 => ?_)
                obtain ⟨rfl, h180, h181, h182⟩ := h178
                have h183 : sf g Y [f, s] _ _ := ⟨h180, h181⟩
                have g184 := h183.2.gf (nin_cons (ykne hY1 hyf (by decide)) (nin_cons (ykne hY1 hys (by decide)) nin_nil)) g112
                have g185 := h183.2.gf (nin_cons (ykne hY0 hyf (by decide)) (nin_cons (ykne hY0 hys (by decide)) nin_nil)) g116
                have hS186 := hS113.tr h183 (by simp)
                show ml _ _ _ (88, [(0, .ref r), (1, .int x1), (3, .int u115), (4, .int 0)], [], M177) _
                refine ml_st (S' := (89, [(0, .ref r), (1, .int x1), (3, .int u115), (4, .int 0)], [.int 1], M177)) rfl rfl rfl ?_
                exact ml_ret rfl (r_z (Or.inr rfl)) (⟨⟨_, rfl, Or.inr ⟨rfl, fun k hk hz => h182 k hk (hz.fr h174 h175)⟩⟩, hS186⟩)
              · have c_55 : ¬ (x2 = 20) := of_decide_eq_false c_55
                refine ml_blk 2 (S' := (60, [(4, .int 0), (3, .int u115), (0, .ref r), (1, .int x1), (2, .int x2)], [.int 2, .ref r], M108)) rfl ?_
                obtain ⟨u187, g188, -⟩ := hS113.1.1.rd hY0
                refine ml_call (a := [.ref r, .int 2]) (rest := []) rfl (okc_t rfl rfl rfl hS113.1.1 hY0 (by decide)) rfl rfl (tr_takes hS113.1.1 hY0 hY1 hY2 hY3 g188 (by decide) (by omega)) (fun v189 M190 h191 => ?_)
                obtain ⟨⟨u192, rfl, z193⟩, h191⟩ := h191
                have g194 := h191.2.gf (nin_cons (ykne hY1 hY0 (by decide)) (nin_cons (ykne hY1 hY3 (by decide)) nin_nil)) g112
                have hS195 := hS113.tr h191 (by simp)
                have hF196 := hF114.tr h191 (by simp)
                show ml _ _ _ (63, [(4, .int 0), (3, .int u115), (0, .ref r), (1, .int x1), (2, .int x2)], [.int u192], M190) _
                refine ml_if (S1 := (68, [(4, .int 0), (3, .int u115), (0, .ref r), (1, .int x1), (2, .int x2)], [], M190)) (S2 := (66, [(4, .int 0), (3, .int u115), (0, .ref r), (1, .int x1), (2, .int x2)], [], M190)) rfl rfl rfl (fun c_63 => ?_) (fun c_63 => ?_)
                · have c_63 : ¬ u192 = 0 := of_decide_eq_true c_63
                  refine ml_st (S' := (69, [(4, .int 0), (3, .int u115), (0, .ref r), (1, .int x1), (2, .int x2)], [.ref r], M190)) rfl rfl rfl ?_
                  refine tg_int rfl hS195.1.1 hY0 (by decide) rfl (fun u197 g198 => ?_)
                  show ml _ _ _ (72, [(4, .int 0), (3, .int u115), (0, .ref r), (1, .int x1), (2, .int x2)], [.int u197], M190) _
                  refine ml_st (S' := (74, [(0, .ref r), (1, .int x1), (3, .int u115), (4, .int u197)], [], M190)) rfl rfl rfl ?_
                  refine ml_st (S' := (75, [(0, .ref r), (1, .int x1), (3, .int u115), (4, .int u197)], [.ref r], M190)) rfl rfl rfl ?_
                  refine tg_ref (S' := (78, [(0, .ref r), (1, .int x1), (3, .int u115), (4, .int u197)], [.ref c], M190)) rfl hS195.1.1 hY0 (by decide) rfl rfl ?_
                  refine ml_get (S' := (81, [(0, .ref r), (1, .int x1), (3, .int u115), (4, .int u197)], [.ref p], M190)) rfl g194 rfl ?_
                  refine ml_blk 3 (S' := (85, [(0, .ref r), (1, .int x1), (3, .int u115), (4, .int u197)], [.int u197, .int u115, .int x1, .ref p], M190)) rfl ?_
                  have h199 : M190.1 t = M.1 t := hS195.2 t (nin_cons (ykne hyt hY0 (by decide)) (nin_cons (ykne hyt hY3 (by decide)) (nin_cons (ykne hyt hyf (by decide)) (nin_cons (ykne hyt hys (by decide)) nin_nil))))
                  have h200 : M190.1 f = M.1 f := hF196.2 f (nin_cons (ykne hyf hY0 (by decide)) (nin_cons (ykne hyf hY3 (by decide)) nin_nil))
                  have h201 : M190.1 s = M.1 s := hF196.2 s (nin_cons (ykne hys hY0 (by decide)) (nin_cons (ykne hys hY3 (by decide)) nin_nil))
                  refine ml_call (a := [.ref p, .int x1, .int u115, .int u197]) (rest := []) rfl (okc_t rfl rfl rfl hS195.1.1 hY4 (by decide)) rfl rfl (tm_setNumbers hS195.1.1 hY4 (Or.inl ⟨x2, hnt, htg.fr h199⟩) (by omega)) (fun v202 M203 h204 => ?_)
                  obtain ⟨rfl, h206, h207, h208⟩ := h204
                  have h209 : sf g Y [f, s] _ _ := ⟨h206, h207⟩
                  have g210 := h209.2.gf (nin_cons (ykne hY1 hyf (by decide)) (nin_cons (ykne hY1 hys (by decide)) nin_nil)) g194
                  have g211 := h209.2.gf (nin_cons (ykne hY0 hyf (by decide)) (nin_cons (ykne hY0 hys (by decide)) nin_nil)) g198
                  have hS212 := hS195.tr h209 (by simp)
                  show ml _ _ _ (88, [(0, .ref r), (1, .int x1), (3, .int u115), (4, .int u197)], [], M203) _
                  refine ml_st (S' := (89, [(0, .ref r), (1, .int x1), (3, .int u115), (4, .int u197)], [.int 1], M203)) rfl rfl rfl ?_
                  exact ml_ret rfl (r_z (Or.inr rfl)) (⟨⟨_, rfl, Or.inr ⟨rfl, fun k hk hz => h208 k hk (hz.fr h200 h201)⟩⟩, hS212⟩)
                · have c_63 : ¬ (¬ u192 = 0) := of_decide_eq_false c_63
                  refine ml_st (S' := (67, [(4, .int 0), (3, .int u115), (0, .ref r), (1, .int x1), (2, .int x2)], [.int 0], M190)) rfl rfl rfl ?_
                  exact ml_ret rfl (r_z (Or.inl rfl)) (⟨⟨_, rfl, Or.inl rfl⟩, hS195⟩)
    · have c_15 : ¬ (¬ u110 = 0) := of_decide_eq_false c_15
      refine ml_st (S' := (19, [(0, .ref r), (1, .int x1), (2, .int x2)], [.int 0], M108)) rfl rfl rfl ?_
      exact ml_ret rfl (r_z (Or.inl rfl)) (⟨⟨_, rfl, Or.inl rfl⟩, hS113⟩)
theorem loop_add {a x : Int32} {m n : Nat} {E : Int} (hn : n < 1073741824) (h0 : 0 ≤ a.toInt) (h1 : a.toInt ≤ n) (hx : 1 ≤ x.toInt) (hE : a.toInt + x.toInt ≤ E) (hEn : E ≤ n) (hm : (2147483648 - a.toInt).toNat ≤ m + 1) : (2147483648 - (a + x).toInt).toNat ≤ m := by
  rw [i_add (by omega) (by omega)]
  omega

set_option maxHeartbeats 2000000 in
theorem tr_takesText {g : xe_G} {M : mi_H} {Y : yT} {r c b vd n da p np mp t tp f s sh ch : Nat} {x1 : Int32} {a0 : Int32} (hW : WF g Y M) (hY0 : Y.1 r = some (9, [c, b, vd, n])) (hY1 : Y.1 c = some (3, [b, da, n])) (hY2 : Y.1 b = some (1, [da, n])) (hY3 : Y.1 vd = some (10, [])) (hY4 : Y.1 p = some (7, [np, mp, t, tp, f, s, sh, ch])) (hr3 : mi_gf M r 9 3 = some (.int a0)) (hcp : mi_gf M c 3 1 = some (.ref p)) {d : Nat} (hd : 3 ≤ d) : mt (mT g) d 170 [.ref r, .int x1] M (fun v M' => (∃ x : Int32, v = some (.int x) ∧ (x = 0 ∨ x = 1 ∧ (∀ k : Int32, x1.toInt < k.toInt → TZ M f s k → TZ M' f s k))) ∧ sf g Y [r, vd, p, ch, f, s] M M') := by
  obtain ⟨d, rfl⟩ : ∃ e, d = e + 1 := ⟨d - 1, by omega⟩
  have hS : sf g Y [r, vd, p, ch, f, s] M M := sf.rf hW
  refine mt_in (b := mb_170 g) rfl rfl ?_
  show ml (mT g) d (mb_170 g).2 (0, [(0, .ref r), (1, .int x1)], [], M) _
  obtain ⟨h0, h1⟩ := hW.rdb hY0 hr3
  have hn := hW.bn hY2
  obtain ⟨hyt, hytp, hyf, hys, hysh, hych⟩ := hW.prows hY4
  have hF : sf g Y [r, vd, p, ch] M M := sf.rf hW
  refine ml_blk 2 (S' := (2, [(0, .ref r), (1, .int x1)], [.int 2, .ref r], M)) rfl ?_
  refine ml_call (a := [.ref r, .int 2]) (rest := []) rfl (okc_t rfl rfl rfl hS.1.1 hY0 (by decide)) rfl rfl (tr_takes hS.1.1 hY0 hY1 hY2 hY3 hr3 (by decide) (by omega)) (fun v1 M2 h3 => ?_)
  obtain ⟨⟨u4, rfl, z5⟩, h3⟩ := h3
  have g6 := h3.2.gf (nin_cons (ykne hY1 hY0 (by decide)) (nin_cons (ykne hY1 hY3 (by decide)) nin_nil)) hcp
  have hS7 := hS.tr h3 (by simp)
  have hF8 := hF.tr h3 (by simp)
  show ml _ _ _ (5, [(0, .ref r), (1, .int x1)], [.int u4], M2) _
  refine ml_if (S1 := (10, [(0, .ref r), (1, .int x1)], [], M2)) (S2 := (8, [(0, .ref r), (1, .int x1)], [], M2)) rfl rfl rfl (fun c_5 => ?_) (fun c_5 => ?_)
  · have c_5 : ¬ u4 = 0 := of_decide_eq_true c_5
    have t9 := z5.resolve_left c_5
    have ha2 := t9.2.1
    have hb2 : 0 ≤ (a0 + 2).toInt ∧ (a0 + 2).toInt ≤ n := hS7.1.1.rdb hY0 t9.2.2.1
    refine ml_st (S' := (11, [(0, .ref r), (1, .int x1)], [.ref r], M2)) rfl rfl rfl ?_
    refine ml_get (S' := (14, [(0, .ref r), (1, .int x1)], [.int (sp_u2 n (Y.2 da) a0)], M2)) rfl t9.2.2.2 rfl ?_
    refine ml_st (S' := (15, [(0, .ref r), (1, .int x1)], [.ref r, .int (sp_u2 n (Y.2 da) a0)], M2)) rfl rfl rfl ?_
    refine tg_ref (S' := (18, [(0, .ref r), (1, .int x1)], [.ref b, .int (sp_u2 n (Y.2 da) a0)], M2)) rfl hS7.1.1 hY0 (by decide) rfl rfl ?_
    refine ml_call (a := [.ref b]) (rest := [.int (sp_u2 n (Y.2 da) a0)]) rfl (okc_t rfl rfl rfl hS7.1.1 hY2 (by decide)) rfl rfl (ct_size (hS7.1.1.bytes hY2).1 (by omega)) (fun v10 M11 h12 => ?_)
    obtain ⟨rfl, h12⟩ := h12
    rw [h12]
    show ml _ _ _ (21, [(0, .ref r), (1, .int x1)], [.int (nI n), .int (sp_u2 n (Y.2 da) a0)], M2) _
    refine ml_st (S' := (22, [(0, .ref r), (1, .int x1)], [.ref r, .int (nI n), .int (sp_u2 n (Y.2 da) a0)], M2)) rfl rfl rfl ?_
    refine ml_get (S' := (25, [(0, .ref r), (1, .int x1)], [.int (a0 + 2), .int (nI n), .int (sp_u2 n (Y.2 da) a0)], M2)) rfl t9.2.2.1 rfl ?_
    refine ml_st (S' := (26, [(0, .ref r), (1, .int x1)], [.int ((nI n) - (a0 + 2)), .int (sp_u2 n (Y.2 da) a0)], M2)) rfl rfl rfl ?_
    refine ml_if2 (S1 := (42, [(0, .ref r), (1, .int x1)], [], M2)) (S2 := (29, [(0, .ref r), (1, .int x1)], [], M2)) rfl rfl rfl (fun c_26 => ?_) (fun c_26 => ?_)
    · have c_26 : (sp_u2 n (Y.2 da) a0) ≤ ((nI n) - (a0 + 2)) := of_decide_eq_true c_26
      refine ml_st (S' := (43, [(0, .ref r), (1, .int x1)], [.ref r], M2)) rfl rfl rfl ?_
      refine ml_get (S' := (46, [(0, .ref r), (1, .int x1)], [.int (a0 + 2)], M2)) rfl t9.2.2.1 rfl ?_
      refine ml_st (S' := (47, [(0, .ref r), (1, .int x1)], [.ref r, .int (a0 + 2)], M2)) rfl rfl rfl ?_
      refine ml_get (S' := (50, [(0, .ref r), (1, .int x1)], [.int (sp_u2 n (Y.2 da) a0), .int (a0 + 2)], M2)) rfl t9.2.2.2 rfl ?_
      refine ml_st (S' := (51, [(0, .ref r), (1, .int x1)], [.int ((a0 + 2) + (sp_u2 n (Y.2 da) a0))], M2)) rfl rfl rfl ?_
      refine ml_st (S' := (52, [(2, .int ((a0 + 2) + (sp_u2 n (Y.2 da) a0))), (0, .ref r), (1, .int x1)], [], M2)) rfl rfl rfl ?_
      have hend := (le_room hn hb2.1 hb2.2 u2_pos c_26)
      refine ml_st (S' := (53, [(2, .int ((a0 + 2) + (sp_u2 n (Y.2 da) a0))), (0, .ref r), (1, .int x1)], [.ref r], M2)) rfl rfl rfl ?_
      refine tg_ref (S' := (56, [(2, .int ((a0 + 2) + (sp_u2 n (Y.2 da) a0))), (0, .ref r), (1, .int x1)], [.ref c], M2)) rfl hS7.1.1 hY0 (by decide) rfl rfl ?_
      refine ml_get (S' := (59, [(2, .int ((a0 + 2) + (sp_u2 n (Y.2 da) a0))), (0, .ref r), (1, .int x1)], [.ref p], M2)) rfl g6 rfl ?_
      refine tg_pint rfl hS7.1.1 hY4 rfl (fun u13 g14 => ?_)
      show ml _ _ _ (62, [(2, .int ((a0 + 2) + (sp_u2 n (Y.2 da) a0))), (0, .ref r), (1, .int x1)], [.int u13], M2) _
      have hcc0 := hS7.1.1.ccb hY4 g14
      refine ml_st (S' := (63, [(0, .ref r), (1, .int x1), (2, .int ((a0 + 2) + (sp_u2 n (Y.2 da) a0))), (3, .int u13)], [], M2)) rfl rfl rfl ?_
      have L_63 : ∀ (n_63 : Nat) (a63 : Int32) (c63 : Int32) (M_63 : mi_H), (2147483648 - a63.toInt).toNat ≤ n_63 → (mi_gf M_63 r 9 3 = some (.int a63) ∧ mi_gf M_63 c 3 1 = some (.ref p) ∧ mi_gf M_63 p 7 7 = some (.int c63) ∧ u13.toInt ≤ c63.toInt ∧ sf g Y [r, vd, p, ch] M M_63) → sf g Y [r, vd, p, ch, f, s] M M_63 → ml (mT g) d (mb_170 g).2 (63, [(0, .ref r), (1, .int x1), (2, .int ((a0 + 2) + (sp_u2 n (Y.2 da) a0))), (3, .int u13)], [], M_63) (fun v M' => (∃ x : Int32, v = some (.int x) ∧ (x = 0 ∨ x = 1 ∧ (∀ k : Int32, x1.toInt < k.toInt → TZ M f s k → TZ M' f s k))) ∧ sf g Y [r, vd, p, ch, f, s] M M') := by
        intro n_63
        induction n_63 with
        | zero => intro a63 c63 M_63 hn; exact (loop_zero hn).elim
        | succ n_63 ih_63 =>
          intro a63 c63 M_63 hn_63 hi_63 hS_63
          have hb_63 := hS_63.1.1.rdb hY0 hi_63.1
          refine ml_st (S' := (64, [(0, .ref r), (1, .int x1), (2, .int ((a0 + 2) + (sp_u2 n (Y.2 da) a0))), (3, .int u13)], [.ref r], M_63)) rfl rfl rfl ?_
          refine ml_get (S' := (67, [(0, .ref r), (1, .int x1), (2, .int ((a0 + 2) + (sp_u2 n (Y.2 da) a0))), (3, .int u13)], [.int a63], M_63)) rfl hi_63.1 rfl ?_
          refine ml_st (S' := (68, [(0, .ref r), (1, .int x1), (2, .int ((a0 + 2) + (sp_u2 n (Y.2 da) a0))), (3, .int u13)], [.int ((a0 + 2) + (sp_u2 n (Y.2 da) a0)), .int a63], M_63)) rfl rfl rfl ?_
          refine ml_if2 (S1 := (128, [(0, .ref r), (1, .int x1), (2, .int ((a0 + 2) + (sp_u2 n (Y.2 da) a0))), (3, .int u13)], [], M_63)) (S2 := (71, [(0, .ref r), (1, .int x1), (2, .int ((a0 + 2) + (sp_u2 n (Y.2 da) a0))), (3, .int u13)], [], M_63)) rfl rfl rfl (fun c_68 => ?_) (fun c_68 => ?_)
          · have c_68 : ((a0 + 2) + (sp_u2 n (Y.2 da) a0)) ≤ a63 := of_decide_eq_true c_68
            refine ml_st (S' := (129, [(0, .ref r), (1, .int x1), (2, .int ((a0 + 2) + (sp_u2 n (Y.2 da) a0))), (3, .int u13)], [.ref r], M_63)) rfl rfl rfl ?_
            refine tg_ref (S' := (132, [(0, .ref r), (1, .int x1), (2, .int ((a0 + 2) + (sp_u2 n (Y.2 da) a0))), (3, .int u13)], [.ref c], M_63)) rfl hS_63.1.1 hY0 (by decide) rfl rfl ?_
            refine ml_get (S' := (135, [(0, .ref r), (1, .int x1), (2, .int ((a0 + 2) + (sp_u2 n (Y.2 da) a0))), (3, .int u13)], [.ref p], M_63)) rfl hi_63.2.1 rfl ?_
            refine ml_blk 3 (S' := (138, [(0, .ref r), (1, .int x1), (2, .int ((a0 + 2) + (sp_u2 n (Y.2 da) a0))), (3, .int u13)], [.ref r, .int u13, .int x1, .ref p], M_63)) rfl ?_
            refine tg_ref (S' := (141, [(0, .ref r), (1, .int x1), (2, .int ((a0 + 2) + (sp_u2 n (Y.2 da) a0))), (3, .int u13)], [.ref c, .int u13, .int x1, .ref p], M_63)) rfl hS_63.1.1 hY0 (by decide) rfl rfl ?_
            refine ml_get (S' := (144, [(0, .ref r), (1, .int x1), (2, .int ((a0 + 2) + (sp_u2 n (Y.2 da) a0))), (3, .int u13)], [.ref p, .int u13, .int x1, .ref p], M_63)) rfl hi_63.2.1 rfl ?_
            refine ml_get (S' := (147, [(0, .ref r), (1, .int x1), (2, .int ((a0 + 2) + (sp_u2 n (Y.2 da) a0))), (3, .int u13)], [.int c63, .int u13, .int x1, .ref p], M_63)) rfl hi_63.2.2.1 rfl ?_
            refine ml_blk 2 (S' := (149, [(0, .ref r), (1, .int x1), (2, .int ((a0 + 2) + (sp_u2 n (Y.2 da) a0))), (3, .int u13)], [.int (c63 - u13), .int u13, .int x1, .ref p], M_63)) rfl ?_
            have h15 : M_63.1 f = M.1 f := hi_63.2.2.2.2.2 f (nin_cons (ykne hyf hY0 (by decide)) (nin_cons (ykne hyf hY3 (by decide)) (nin_cons (ykne hyf hY4 (by decide)) (nin_cons (ykne hyf hych (by decide)) nin_nil))))
            have h16 : M_63.1 s = M.1 s := hi_63.2.2.2.2.2 s (nin_cons (ykne hys hY0 (by decide)) (nin_cons (ykne hys hY3 (by decide)) (nin_cons (ykne hys hY4 (by decide)) (nin_cons (ykne hys hych (by decide)) nin_nil))))
            refine ml_call (a := [.ref p, .int x1, .int u13, .int (c63 - u13)]) (rest := []) rfl (okc_t rfl rfl rfl hS_63.1.1 hY4 (by decide)) rfl rfl (tm_setNumbers hS_63.1.1 hY4 (Or.inr ⟨c63, hi_63.2.2.1, hcc0.1, by rw [i_sub (by have := hcc0.1; have := (hS_63.1.1.ccb hY4 hi_63.2.2.1); omega) (by have := hcc0.1; have := (hS_63.1.1.ccb hY4 hi_63.2.2.1); omega)]; have := hi_63.2.2.2.1; omega, by rw [i_sub (by have := hcc0.1; have := (hS_63.1.1.ccb hY4 hi_63.2.2.1); omega) (by have := hcc0.1; have := (hS_63.1.1.ccb hY4 hi_63.2.2.1); omega)]; omega⟩) (by omega)) (fun v17 M18 h19 => ?_)
            obtain ⟨rfl, h21, h22, h23⟩ := h19
            have h24 : sf g Y [f, s] _ _ := ⟨h21, h22⟩
            have g25 := h24.2.gf (nin_cons (ykne hY0 hyf (by decide)) (nin_cons (ykne hY0 hys (by decide)) nin_nil)) hi_63.1
            have g26 := h24.2.gf (nin_cons (ykne hY1 hyf (by decide)) (nin_cons (ykne hY1 hys (by decide)) nin_nil)) hi_63.2.1
            have g27 := h24.2.gf (nin_cons (ykne hY4 hyf (by decide)) (nin_cons (ykne hY4 hys (by decide)) nin_nil)) hi_63.2.2.1
            have hS28 := hS_63.tr h24 (by simp)
            show ml _ _ _ (152, [(0, .ref r), (1, .int x1), (2, .int ((a0 + 2) + (sp_u2 n (Y.2 da) a0))), (3, .int u13)], [], M18) _
            refine ml_st (S' := (153, [(0, .ref r), (1, .int x1), (2, .int ((a0 + 2) + (sp_u2 n (Y.2 da) a0))), (3, .int u13)], [.int 1], M18)) rfl rfl rfl ?_
            exact ml_ret rfl (r_z (Or.inr rfl)) (⟨⟨_, rfl, Or.inr ⟨rfl, fun k hk hz => h23 k hk (hz.fr h15 h16)⟩⟩, hS28⟩)
          · have c_68 : ¬ (((a0 + 2) + (sp_u2 n (Y.2 da) a0)) ≤ a63) := of_decide_eq_false c_68
            refine ml_blk 2 (S' := (73, [(0, .ref r), (1, .int x1), (2, .int ((a0 + 2) + (sp_u2 n (Y.2 da) a0))), (3, .int u13)], [.int ((a0 + 2) + (sp_u2 n (Y.2 da) a0)), .ref r], M_63)) rfl ?_
            refine ml_call (a := [.ref r, .int ((a0 + 2) + (sp_u2 n (Y.2 da) a0))]) (rest := []) rfl (okc_t rfl rfl rfl hS_63.1.1 hY0 (by decide)) rfl rfl (tr_characterSize hS_63.1.1 hY0 hY1 hY2 hY3 hi_63.1 (Int32.not_le.mp c_68) (by omega)) (fun v29 M30 h31 => ?_)
            obtain ⟨⟨u32, rfl, z33⟩, h31⟩ := h31
            rw [h31]
            show ml _ _ _ (76, [(0, .ref r), (1, .int x1), (2, .int ((a0 + 2) + (sp_u2 n (Y.2 da) a0))), (3, .int u13)], [.int u32], M_63) _
            refine ml_st (S' := (78, [(4, .int u32), (0, .ref r), (1, .int x1), (2, .int ((a0 + 2) + (sp_u2 n (Y.2 da) a0))), (3, .int u13)], [], M_63)) rfl rfl rfl ?_
            refine ml_blk 2 (S' := (81, [(4, .int u32), (0, .ref r), (1, .int x1), (2, .int ((a0 + 2) + (sp_u2 n (Y.2 da) a0))), (3, .int u13)], [.int 1, .int u32], M_63)) rfl ?_
            refine ml_if2 (S1 := (98, [(4, .int u32), (0, .ref r), (1, .int x1), (2, .int ((a0 + 2) + (sp_u2 n (Y.2 da) a0))), (3, .int u13)], [], M_63)) (S2 := (84, [(4, .int u32), (0, .ref r), (1, .int x1), (2, .int ((a0 + 2) + (sp_u2 n (Y.2 da) a0))), (3, .int u13)], [], M_63)) rfl rfl rfl (fun c_81 => ?_) (fun c_81 => ?_)
            · have c_81 : 1 ≤ u32 := of_decide_eq_true c_81
              have z34 := z33.resolve_left (fun e => absurd (e ▸ c_81 : (1 : Int32) ≤ 0) (by decide))
              have hx_ : (a63 + u32).toInt = a63.toInt + u32.toInt := i_add (by have := z34.1; omega) (by have := z34.2; have := hend.1; have := hend.2; omega)
              refine ml_st (S' := (99, [(4, .int u32), (0, .ref r), (1, .int x1), (2, .int ((a0 + 2) + (sp_u2 n (Y.2 da) a0))), (3, .int u13)], [.ref r], M_63)) rfl rfl rfl ?_
              refine tg_ref (S' := (102, [(4, .int u32), (0, .ref r), (1, .int x1), (2, .int ((a0 + 2) + (sp_u2 n (Y.2 da) a0))), (3, .int u13)], [.ref c], M_63)) rfl hS_63.1.1 hY0 (by decide) rfl rfl ?_
              refine ml_get (S' := (105, [(4, .int u32), (0, .ref r), (1, .int x1), (2, .int ((a0 + 2) + (sp_u2 n (Y.2 da) a0))), (3, .int u13)], [.ref p], M_63)) rfl hi_63.2.1 rfl ?_
              refine ml_blk 2 (S' := (108, [(4, .int u32), (0, .ref r), (1, .int x1), (2, .int ((a0 + 2) + (sp_u2 n (Y.2 da) a0))), (3, .int u13)], [.int u32, .ref r, .ref p], M_63)) rfl ?_
              refine ml_call (a := [.ref r, .int u32]) (rest := [.ref p]) rfl (okc_t rfl rfl rfl hS_63.1.1 hY0 (by decide)) rfl rfl (tr_characterOf hS_63.1.1 hY0 hY1 hY2 hY3 (by omega)) (fun v35 M36 h37 => ?_)
              obtain ⟨⟨u38, rfl⟩, h37⟩ := h37
              rw [h37]
              show ml _ _ _ (111, [(4, .int u32), (0, .ref r), (1, .int x1), (2, .int ((a0 + 2) + (sp_u2 n (Y.2 da) a0))), (3, .int u13)], [.int u38, .ref p], M_63) _
              refine ml_call (a := [.ref p, .int u38]) (rest := []) rfl (okc_t rfl rfl rfl hS_63.1.1 hY4 (by decide)) rfl rfl (tm_addCharacter hS_63.1.1 hY4 hi_63.2.2.1 (by omega)) (fun v39 M40 h41 => ?_)
              obtain ⟨rfl, h43, h44, h45⟩ := h41
              have h46 : sf g Y [p, ch] _ _ := ⟨h43, h44⟩
              have g47 := h46.2.gf (nin_cons (ykne hY0 hY4 (by decide)) (nin_cons (ykne hY0 hych (by decide)) nin_nil)) hi_63.1
              have g48 := h46.2.gf (nin_cons (ykne hY1 hY4 (by decide)) (nin_cons (ykne hY1 hych (by decide)) nin_nil)) hi_63.2.1
              have hS49 := hS_63.tr h46 (by simp)
              have hF50 := hi_63.2.2.2.2.tr h46 (by simp)
              obtain ⟨u51, g52, l53⟩ := h45
              show ml _ _ _ (114, [(4, .int u32), (0, .ref r), (1, .int x1), (2, .int ((a0 + 2) + (sp_u2 n (Y.2 da) a0))), (3, .int u13)], [], M40) _
              refine ml_blk 2 (S' := (116, [(4, .int u32), (0, .ref r), (1, .int x1), (2, .int ((a0 + 2) + (sp_u2 n (Y.2 da) a0))), (3, .int u13)], [.ref r, .ref r], M40)) rfl ?_
              refine ml_get (S' := (119, [(4, .int u32), (0, .ref r), (1, .int x1), (2, .int ((a0 + 2) + (sp_u2 n (Y.2 da) a0))), (3, .int u13)], [.int a63, .ref r], M40)) rfl g47 rfl ?_
              refine ml_blk 2 (S' := (122, [(4, .int u32), (0, .ref r), (1, .int x1), (2, .int ((a0 + 2) + (sp_u2 n (Y.2 da) a0))), (3, .int u13)], [.int (a63 + u32), .ref r], M40)) rfl ?_
              refine tp_putx rfl hS49.1 hY0 (by decide) rfl (⟨_, rfl⟩) rfl (fun l hl _ => xtr_at hl (by rw [hx_]; have := z34.1; omega) (by rw [hx_]; have := z34.2; have := hend.1; have := hend.2; omega)) (fun M54 hS55 f56 => ?_)
              have hF57 := hF50.put hS55 f56 (by simp)
              have hS58 := hS49.put hS55 f56 (by simp)
              have g59 := gf_fr (f56.1 c (ykne hY1 hY0 (by decide))) g48
              have g60 := gf_fr (f56.1 p (ykne hY4 hY0 (by decide))) g52
              show ml _ _ _ (125, [(4, .int u32), (0, .ref r), (1, .int x1), (2, .int ((a0 + 2) + (sp_u2 n (Y.2 da) a0))), (3, .int u13)], [], M54) _
              refine ml_st (S' := (63, [(0, .ref r), (1, .int x1), (2, .int ((a0 + 2) + (sp_u2 n (Y.2 da) a0))), (3, .int u13)], [], M54)) rfl rfl rfl ?_
              exact ih_63 (a63 + u32) u51 _ (loop_add hn hb_63.1 hb_63.2 z34.1 (Int.le_trans z34.2 (Int.le_of_eq hend.2)) hend.1 hn_63) (⟨f56.2.2.1, g59, g60, Int.le_trans hi_63.2.2.2.1 l53, hF57⟩) hS58
            · have c_81 : ¬ (1 ≤ u32) := of_decide_eq_false c_81
              refine ml_st (S' := (85, [(4, .int u32), (0, .ref r), (1, .int x1), (2, .int ((a0 + 2) + (sp_u2 n (Y.2 da) a0))), (3, .int u13)], [.ref r], M_63)) rfl rfl rfl ?_
              refine tg_ref (S' := (88, [(4, .int u32), (0, .ref r), (1, .int x1), (2, .int ((a0 + 2) + (sp_u2 n (Y.2 da) a0))), (3, .int u13)], [.ref vd], M_63)) rfl hS_63.1.1 hY0 (by decide) rfl rfl ?_
              refine ml_blk 2 (S' := (91, [(4, .int u32), (0, .ref r), (1, .int x1), (2, .int ((a0 + 2) + (sp_u2 n (Y.2 da) a0))), (3, .int u13)], [.ref r, .int 6, .ref vd], M_63)) rfl ?_
              refine ml_get (S' := (94, [(4, .int u32), (0, .ref r), (1, .int x1), (2, .int ((a0 + 2) + (sp_u2 n (Y.2 da) a0))), (3, .int u13)], [.int a63, .int 6, .ref vd], M_63)) rfl hi_63.1 rfl ?_
              refine ml_call (a := [.ref vd, .int 6, .int a63]) (rest := []) rfl (okc_t rfl rfl rfl hS_63.1.1 hY3 (by decide)) rfl rfl (tw_Ve_wrong hS_63.1.1 hY3 (by omega)) (fun v61 M62 h63 => ?_)
              obtain ⟨rfl, h63⟩ := h63
              have g65 := h63.2.gf (nin_cons (ykne hY0 hY3 (by decide)) nin_nil) hi_63.1
              have g66 := h63.2.gf (nin_cons (ykne hY1 hY3 (by decide)) nin_nil) hi_63.2.1
              have g67 := h63.2.gf (nin_cons (ykne hY4 hY3 (by decide)) nin_nil) hi_63.2.2.1
              have hS68 := hS_63.tr h63 (by simp)
              have hF69 := hi_63.2.2.2.2.tr h63 (by simp)
              show ml _ _ _ (97, [(4, .int u32), (0, .ref r), (1, .int x1), (2, .int ((a0 + 2) + (sp_u2 n (Y.2 da) a0))), (3, .int u13)], [.int 0], M62) _
              exact ml_ret rfl (r_z (Or.inl rfl)) (⟨⟨_, rfl, Or.inl rfl⟩, hS68⟩)
      exact L_63 _ (a0 + 2) u13 _ (Nat.le_refl _) (⟨t9.2.2.1, g6, g14, Int.le_refl _, hF8⟩) hS7
    · have c_26 : ¬ ((sp_u2 n (Y.2 da) a0) ≤ ((nI n) - (a0 + 2))) := of_decide_eq_false c_26
      refine ml_st (S' := (30, [(0, .ref r), (1, .int x1)], [.ref r], M2)) rfl rfl rfl ?_
      refine tg_ref (S' := (33, [(0, .ref r), (1, .int x1)], [.ref vd], M2)) rfl hS7.1.1 hY0 (by decide) rfl rfl ?_
      refine ml_blk 2 (S' := (35, [(0, .ref r), (1, .int x1)], [.ref r, .int 1, .ref vd], M2)) rfl ?_
      refine ml_get (S' := (38, [(0, .ref r), (1, .int x1)], [.int (a0 + 2), .int 1, .ref vd], M2)) rfl t9.2.2.1 rfl ?_
      refine ml_call (a := [.ref vd, .int 1, .int (a0 + 2)]) (rest := []) rfl (okc_t rfl rfl rfl hS7.1.1 hY3 (by decide)) rfl rfl (tw_Ve_wrong hS7.1.1 hY3 (by omega)) (fun v70 M71 h72 => ?_)
      obtain ⟨rfl, h72⟩ := h72
      have g74 := h72.2.gf (nin_cons (ykne hY0 hY3 (by decide)) nin_nil) t9.2.2.1
      have g75 := h72.2.gf (nin_cons (ykne hY1 hY3 (by decide)) nin_nil) g6
      have g76 := h72.2.gf (nin_cons (ykne hY0 hY3 (by decide)) nin_nil) t9.2.2.2
      have hS77 := hS7.tr h72 (by simp)
      have hF78 := hF8.tr h72 (by simp)
      show ml _ _ _ (41, [(0, .ref r), (1, .int x1)], [.int 0], M71) _
      exact ml_ret rfl (r_z (Or.inl rfl)) (⟨⟨_, rfl, Or.inl rfl⟩, hS77⟩)
  · have c_5 : ¬ (¬ u4 = 0) := of_decide_eq_false c_5
    refine ml_st (S' := (9, [(0, .ref r), (1, .int x1)], [.int 0], M2)) rfl rfl rfl ?_
    exact ml_ret rfl (r_z (Or.inl rfl)) (⟨⟨_, rfl, Or.inl rfl⟩, hS7⟩)
set_option maxHeartbeats 2000000 in
theorem tr_takesEntry {g : xe_G} {M : mi_H} {Y : yT} {r c b vd n da p np mp t tp f s sh ch : Nat} {x1 : Int32} {a0 : Int32} (hW : WF g Y M) (hY0 : Y.1 r = some (9, [c, b, vd, n])) (hY1 : Y.1 c = some (3, [b, da, n])) (hY2 : Y.1 b = some (1, [da, n])) (hY3 : Y.1 vd = some (10, [])) (hY4 : Y.1 p = some (7, [np, mp, t, tp, f, s, sh, ch])) (hr3 : mi_gf M r 9 3 = some (.int a0)) (hcp : mi_gf M c 3 1 = some (.ref p)) (hk0 : 0 ≤ x1.toInt) (hk1 : x1.toInt ≤ 65535) (htz : TZ M f s x1) {d : Nat} (hd : 4 ≤ d) : mt (mT g) d 163 [.ref r, .int x1] M (fun v M' => (∃ x : Int32, v = some (.int x) ∧ (x = 0 ∨ x = 1 ∧ TZ M' f s (x1 + 1))) ∧ sf g Y [r, vd, t, tp, f, s, p, ch] M M') := by
  obtain ⟨d, rfl⟩ : ∃ e, d = e + 1 := ⟨d - 1, by omega⟩
  have hS : sf g Y [r, vd, t, tp, f, s, p, ch] M M := sf.rf hW
  refine mt_in (b := mb_163 g) rfl rfl ?_
  show ml (mT g) d (mb_163 g).2 (0, [(0, .ref r), (1, .int x1)], [], M) _
  obtain ⟨h0, h1⟩ := hW.rdb hY0 hr3
  have hn := hW.bn hY2
  obtain ⟨hyt, hytp, hyf, hys, hysh, hych⟩ := hW.prows hY4
  have hF : sf g Y [r, vd, t, tp] M M := sf.rf hW
  have hx11 : (x1 + 1).toInt = x1.toInt + 1 := i_add (by have : (1 : Int32).toInt = 1 := rfl; omega) (by have : (1 : Int32).toInt = 1 := rfl; omega)
  refine ml_st (S' := (1, [(0, .ref r), (1, .int x1)], [.ref r], M)) rfl rfl rfl ?_
  refine ml_get (S' := (4, [(0, .ref r), (1, .int x1)], [.int a0], M)) rfl hr3 rfl ?_
  refine ml_st (S' := (5, [(2, .int a0), (0, .ref r), (1, .int x1)], [], M)) rfl rfl rfl ?_
  refine ml_blk 2 (S' := (7, [(2, .int a0), (0, .ref r), (1, .int x1)], [.int 1, .ref r], M)) rfl ?_
  refine ml_call (a := [.ref r, .int 1]) (rest := []) rfl (okc_t rfl rfl rfl hS.1.1 hY0 (by decide)) rfl rfl (tr_takes hS.1.1 hY0 hY1 hY2 hY3 hr3 (by decide) (by omega)) (fun v1 M2 h3 => ?_)
  obtain ⟨⟨u4, rfl, z5⟩, h3⟩ := h3
  have g6 := h3.2.gf (nin_cons (ykne hY1 hY0 (by decide)) (nin_cons (ykne hY1 hY3 (by decide)) nin_nil)) hcp
  have hS7 := hS.tr h3 (by simp)
  have hF8 := hF.tr h3 (by simp)
  show ml _ _ _ (10, [(2, .int a0), (0, .ref r), (1, .int x1)], [.int u4], M2) _
  refine ml_if (S1 := (15, [(2, .int a0), (0, .ref r), (1, .int x1)], [], M2)) (S2 := (13, [(2, .int a0), (0, .ref r), (1, .int x1)], [], M2)) rfl rfl rfl (fun c_10 => ?_) (fun c_10 => ?_)
  · have c_10 : ¬ u4 = 0 := of_decide_eq_true c_10
    refine ml_st (S' := (16, [(2, .int a0), (0, .ref r), (1, .int x1)], [.ref r], M2)) rfl rfl rfl ?_
    refine tg_int rfl hS7.1.1 hY0 (by decide) rfl (fun u9 g10 => ?_)
    show ml _ _ _ (19, [(2, .int a0), (0, .ref r), (1, .int x1)], [.int u9], M2) _
    refine ml_st (S' := (20, [(3, .int u9), (2, .int a0), (0, .ref r), (1, .int x1)], [], M2)) rfl rfl rfl ?_
    refine ml_blk 2 (S' := (22, [(3, .int u9), (2, .int a0), (0, .ref r), (1, .int x1)], [.int u9, .ref r], M2)) rfl ?_
    refine ml_call (a := [.ref r, .int u9]) (rest := []) rfl (okc_t rfl rfl rfl hS7.1.1 hY0 (by decide)) rfl rfl (tr_isTag hS7.1.1 hY0 hY1 hY2 hY3 (by omega)) (fun v11 M12 h13 => ?_)
    obtain ⟨⟨u14, rfl, z15⟩, h13⟩ := h13
    rw [h13]
    show ml _ _ _ (25, [(3, .int u9), (2, .int a0), (0, .ref r), (1, .int x1)], [.int u14], M2) _
    refine ml_if (S1 := (38, [(3, .int u9), (2, .int a0), (0, .ref r), (1, .int x1)], [], M2)) (S2 := (28, [(3, .int u9), (2, .int a0), (0, .ref r), (1, .int x1)], [], M2)) rfl rfl rfl (fun c_25 => ?_) (fun c_25 => ?_)
    · have c_25 : ¬ u14 = 0 := of_decide_eq_true c_25
      refine ml_blk 2 (S' := (40, [(3, .int u9), (2, .int a0), (0, .ref r), (1, .int x1)], [.int 5, .int u9], M2)) rfl ?_
      have J_76 : ml (mT g) d (mb_163 g).2 (76, [(0, .ref r), (1, .int x1), (2, .int a0), (3, .int u9)], [], M2) (fun v M' => (∃ x : Int32, v = some (.int x) ∧ (x = 0 ∨ x = 1 ∧ TZ M' f s (x1 + 1))) ∧ sf g Y [r, vd, t, tp, f, s, p, ch] M M') := by
        refine ml_st (S' := (77, [(0, .ref r), (1, .int x1), (2, .int a0), (3, .int u9)], [.ref r], M2)) rfl rfl rfl ?_
        refine tg_ref (S' := (80, [(0, .ref r), (1, .int x1), (2, .int a0), (3, .int u9)], [.ref c], M2)) rfl hS7.1.1 hY0 (by decide) rfl rfl ?_
        refine ml_get (S' := (83, [(0, .ref r), (1, .int x1), (2, .int a0), (3, .int u9)], [.ref p], M2)) rfl g6 rfl ?_
        refine ml_blk 3 (S' := (86, [(0, .ref r), (1, .int x1), (2, .int a0), (3, .int u9)], [.int a0, .int u9, .int x1, .ref p], M2)) rfl ?_
        refine ml_call (a := [.ref p, .int x1, .int u9, .int a0]) (rest := []) rfl (okc_t rfl rfl rfl hS7.1.1 hY4 (by decide)) rfl rfl (tm_setTag hS7.1.1 hY4 (htz.fr (hF8.2 f (nin_cons (ykne hyf hY0 (by decide)) (nin_cons (ykne hyf hY3 (by decide)) (nin_cons (ykne hyf hyt (by decide)) (nin_cons (ykne hyf hytp (by decide)) nin_nil))))) (hF8.2 s (nin_cons (ykne hys hY0 (by decide)) (nin_cons (ykne hys hY3 (by decide)) (nin_cons (ykne hys hyt (by decide)) (nin_cons (ykne hys hytp (by decide)) nin_nil)))))) (by omega)) (fun v16 M17 h18 => ?_)
        obtain ⟨rfl, h20, h21, h22⟩ := h18
        have h23 : sf g Y [t, tp] _ _ := ⟨h20, h21⟩
        have g24 := h23.2.gf (nin_cons (ykne hY1 hyt (by decide)) (nin_cons (ykne hY1 hytp (by decide)) nin_nil)) g6
        have g25 := h23.2.gf (nin_cons (ykne hY0 hyt (by decide)) (nin_cons (ykne hY0 hytp (by decide)) nin_nil)) g10
        have hS26 := hS7.tr h23 (by simp)
        have hF27 := hF8.tr h23 (by simp)
        show ml _ _ _ (89, [(0, .ref r), (1, .int x1), (2, .int a0), (3, .int u9)], [], M17) _
        refine ml_st (S' := (90, [(0, .ref r), (1, .int x1), (2, .int a0), (3, .int u9)], [.int u9], M17)) rfl rfl rfl ?_
        refine ml_sw rfl (fun t_90 ht_90 => ?_)
        have kt_90 := ht_90
        have ht_90 : t_90 ∈ [128, 134, 140, 162] := mi_sw_sub ht_90 (by decide)
        simp only [List.mem_cons, List.not_mem_nil, or_false] at ht_90
        rcases ht_90 with rfl | rfl | rfl | rfl
        · show ml _ _ _ (128, [(0, .ref r), (1, .int x1), (2, .int a0), (3, .int u9)], [], M17) _
          refine ml_blk 2 (S' := (130, [(0, .ref r), (1, .int x1), (2, .int a0), (3, .int u9)], [.int x1, .ref r], M17)) rfl ?_
          have h28 : M17.1 f = M.1 f := hF27.2 f (nin_cons (ykne hyf hY0 (by decide)) (nin_cons (ykne hyf hY3 (by decide)) (nin_cons (ykne hyf hyt (by decide)) (nin_cons (ykne hyf hytp (by decide)) nin_nil))))
          have h29 : M17.1 s = M.1 s := hF27.2 s (nin_cons (ykne hys hY0 (by decide)) (nin_cons (ykne hys hY3 (by decide)) (nin_cons (ykne hys hyt (by decide)) (nin_cons (ykne hys hytp (by decide)) nin_nil))))
          obtain ⟨u30, g31, -⟩ := hS26.1.1.rd hY0
          refine ml_call (a := [.ref r, .int x1]) (rest := []) rfl (okc_t rfl rfl rfl hS26.1.1 hY0 (by decide)) rfl rfl (tr_takesText hS26.1.1 hY0 hY1 hY2 hY3 hY4 g31 g24 (by omega)) (fun v32 M33 h34 => ?_)
          obtain ⟨⟨u35, rfl, z36⟩, h34⟩ := h34
          have g37 := h34.2.gf (nin_cons (ykne hY1 hY0 (by decide)) (nin_cons (ykne hY1 hY3 (by decide)) (nin_cons (ykne hY1 hY4 (by decide)) (nin_cons (ykne hY1 hych (by decide)) (nin_cons (ykne hY1 hyf (by decide)) (nin_cons (ykne hY1 hys (by decide)) nin_nil)))))) g24
          have hS38 := hS26.tr h34 (by simp)
          show ml _ _ _ (133, [(0, .ref r), (1, .int x1), (2, .int a0), (3, .int u9)], [.int u35], M33) _
          exact ml_ret rfl (r_z (qS_z z36)) (⟨⟨_, rfl, (z36).imp id (fun h => ⟨h.1, h.2 _ (by rw [hx11]; omega) (((htz.le (by rw [hx11]; omega) : TZ M f s (x1 + 1))).fr (h28) (h29))⟩)⟩, hS38⟩)
        · show ml _ _ _ (134, [(0, .ref r), (1, .int x1), (2, .int a0), (3, .int u9)], [], M17) _
          refine ml_blk 2 (S' := (136, [(0, .ref r), (1, .int x1), (2, .int a0), (3, .int u9)], [.int 4, .ref r], M17)) rfl ?_
          obtain ⟨u39, g40, -⟩ := hS26.1.1.rd hY0
          refine ml_call (a := [.ref r, .int 4]) (rest := []) rfl (okc_t rfl rfl rfl hS26.1.1 hY0 (by decide)) rfl rfl (tr_takes hS26.1.1 hY0 hY1 hY2 hY3 g40 (by decide) (by omega)) (fun v41 M42 h43 => ?_)
          obtain ⟨⟨u44, rfl, z45⟩, h43⟩ := h43
          have g46 := h43.2.gf (nin_cons (ykne hY1 hY0 (by decide)) (nin_cons (ykne hY1 hY3 (by decide)) nin_nil)) g24
          have hS47 := hS26.tr h43 (by simp)
          have hF48 := hF27.tr h43 (by simp)
          show ml _ _ _ (139, [(0, .ref r), (1, .int x1), (2, .int a0), (3, .int u9)], [.int u44], M42) _
          exact ml_ret rfl (r_z (qS_z z45)) (⟨⟨_, rfl, (z45).imp id (fun h => ⟨h.1, ((htz.le (by rw [hx11]; omega) : TZ M f s (x1 + 1))).fr (hF48.2 f (nin_cons (ykne hyf hY0 (by decide)) (nin_cons (ykne hyf hY3 (by decide)) (nin_cons (ykne hyf hyt (by decide)) (nin_cons (ykne hyf hytp (by decide)) nin_nil))))) (hF48.2 s (nin_cons (ykne hys hY0 (by decide)) (nin_cons (ykne hys hY3 (by decide)) (nin_cons (ykne hys hyt (by decide)) (nin_cons (ykne hys hytp (by decide)) nin_nil)))))⟩)⟩, hS47⟩)
        · show ml _ _ _ (140, [(0, .ref r), (1, .int x1), (2, .int a0), (3, .int u9)], [], M17) _
          refine ml_blk 2 (S' := (142, [(0, .ref r), (1, .int x1), (2, .int a0), (3, .int u9)], [.int 4, .ref r], M17)) rfl ?_
          obtain ⟨u49, g50, -⟩ := hS26.1.1.rd hY0
          refine ml_call (a := [.ref r, .int 4]) (rest := []) rfl (okc_t rfl rfl rfl hS26.1.1 hY0 (by decide)) rfl rfl (tr_takes hS26.1.1 hY0 hY1 hY2 hY3 g50 (by decide) (by omega)) (fun v51 M52 h53 => ?_)
          obtain ⟨⟨u54, rfl, z55⟩, h53⟩ := h53
          have g56 := h53.2.gf (nin_cons (ykne hY1 hY0 (by decide)) (nin_cons (ykne hY1 hY3 (by decide)) nin_nil)) g24
          have hS57 := hS26.tr h53 (by simp)
          have hF58 := hF27.tr h53 (by simp)
          show ml _ _ _ (145, [(0, .ref r), (1, .int x1), (2, .int a0), (3, .int u9)], [.int u54], M52) _
          refine ml_if (S1 := (160, [], [], M52)) (S2 := (148, [(0, .ref r), (1, .int x1), (2, .int a0), (3, .int u9)], [], M52)) rfl rfl rfl (fun c_145 => ?_) (fun c_145 => ?_)
          · have c_145 : u54 = 0 := of_decide_eq_true c_145
            refine ml_st (S' := (161, [], [.int 0], M52)) rfl rfl rfl ?_
            exact ml_ret rfl (r_z (Or.inl rfl)) (⟨⟨_, rfl, Or.inl rfl⟩, hS57⟩)
          · have c_145 : ¬ (u54 = 0) := of_decide_eq_false c_145
            refine ml_blk 2 (S' := (150, [(0, .ref r), (1, .int x1), (2, .int a0), (3, .int u9)], [.int 4, .ref r], M52)) rfl ?_
            obtain ⟨u59, g60, -⟩ := hS57.1.1.rd hY0
            refine ml_call (a := [.ref r, .int 4]) (rest := []) rfl (okc_t rfl rfl rfl hS57.1.1 hY0 (by decide)) rfl rfl (tr_takes hS57.1.1 hY0 hY1 hY2 hY3 g60 (by decide) (by omega)) (fun v61 M62 h63 => ?_)
            obtain ⟨⟨u64, rfl, z65⟩, h63⟩ := h63
            have g66 := h63.2.gf (nin_cons (ykne hY1 hY0 (by decide)) (nin_cons (ykne hY1 hY3 (by decide)) nin_nil)) g56
            have hS67 := hS57.tr h63 (by simp)
            have hF68 := hF58.tr h63 (by simp)
            show ml _ _ _ (153, [(0, .ref r), (1, .int x1), (2, .int a0), (3, .int u9)], [.int u64], M62) _
            refine ml_if (S1 := (160, [], [], M62)) (S2 := (156, [(0, .ref r), (1, .int x1), (2, .int a0), (3, .int u9)], [], M62)) rfl rfl rfl (fun c_153 => ?_) (fun c_153 => ?_)
            · have c_153 : u64 = 0 := of_decide_eq_true c_153
              refine ml_st (S' := (161, [], [.int 0], M62)) rfl rfl rfl ?_
              exact ml_ret rfl (r_z (Or.inl rfl)) (⟨⟨_, rfl, Or.inl rfl⟩, hS67⟩)
            · have c_153 : ¬ (u64 = 0) := of_decide_eq_false c_153
              refine ml_st (S' := (157, [(0, .ref r), (1, .int x1), (2, .int a0), (3, .int u9)], [.int 1], M62)) rfl rfl rfl ?_
              refine ml_st (S' := (161, [], [.int 1], M62)) rfl rfl rfl ?_
              exact ml_ret rfl (r_z (Or.inr rfl)) (⟨⟨_, rfl, Or.inr ⟨rfl, ((htz.le (by rw [hx11]; omega) : TZ M f s (x1 + 1))).fr (hF68.2 f (nin_cons (ykne hyf hY0 (by decide)) (nin_cons (ykne hyf hY3 (by decide)) (nin_cons (ykne hyf hyt (by decide)) (nin_cons (ykne hyf hytp (by decide)) nin_nil))))) (hF68.2 s (nin_cons (ykne hys hY0 (by decide)) (nin_cons (ykne hys hY3 (by decide)) (nin_cons (ykne hys hyt (by decide)) (nin_cons (ykne hys hytp (by decide)) nin_nil)))))⟩⟩, hS67⟩)
        · show ml _ _ _ (162, [(0, .ref r), (1, .int x1), (2, .int a0), (3, .int u9)], [], M17) _
          refine ml_blk 3 (S' := (165, [(0, .ref r), (1, .int x1), (2, .int a0), (3, .int u9)], [.int u9, .int x1, .ref r], M17)) rfl ?_
          obtain ⟨u69, g70, -⟩ := hS26.1.1.rd hY0
          have h71 : M17.1 f = M.1 f := hF27.2 f (nin_cons (ykne hyf hY0 (by decide)) (nin_cons (ykne hyf hY3 (by decide)) (nin_cons (ykne hyf hyt (by decide)) (nin_cons (ykne hyf hytp (by decide)) nin_nil))))
          have h72 : M17.1 s = M.1 s := hF27.2 s (nin_cons (ykne hys hY0 (by decide)) (nin_cons (ykne hys hY3 (by decide)) (nin_cons (ykne hys hyt (by decide)) (nin_cons (ykne hys hytp (by decide)) nin_nil))))
          refine ml_call (a := [.ref r, .int x1, .int u9]) (rest := []) rfl (okc_t rfl rfl rfl hS26.1.1 hY0 (by decide)) rfl rfl (tr_takesIndexes hS26.1.1 hY0 hY1 hY2 hY3 hY4 g70 g24 (fun e => by rw [e] at kt_90; exact absurd kt_90 (by decide)) (h22) (by omega)) (fun v73 M74 h75 => ?_)
          obtain ⟨⟨u76, rfl, z77⟩, h75⟩ := h75
          have g78 := h75.2.gf (nin_cons (ykne hY1 hY0 (by decide)) (nin_cons (ykne hY1 hY3 (by decide)) (nin_cons (ykne hY1 hyf (by decide)) (nin_cons (ykne hY1 hys (by decide)) nin_nil)))) g24
          have hS79 := hS26.tr h75 (by simp)
          show ml _ _ _ (168, [(0, .ref r), (1, .int x1), (2, .int a0), (3, .int u9)], [.int u76], M74) _
          exact ml_ret rfl (r_z (qS_z z77)) (⟨⟨_, rfl, (z77).imp id (fun h => ⟨h.1, h.2 _ (by rw [hx11]; omega) (((htz.le (by rw [hx11]; omega) : TZ M f s (x1 + 1))).fr (h71) (h72))⟩)⟩, hS79⟩)
      have J_49 : ml (mT g) d (mb_163 g).2 (49, [(0, .ref r), (1, .int x1), (2, .int a0), (3, .int u9)], [], M2) (fun v M' => (∃ x : Int32, v = some (.int x) ∧ (x = 0 ∨ x = 1 ∧ TZ M' f s (x1 + 1))) ∧ sf g Y [r, vd, t, tp, f, s, p, ch] M M') := by
        refine ml_blk 3 (S' := (52, [(0, .ref r), (1, .int x1), (2, .int a0), (3, .int u9)], [.int (x1 + 1)], M2)) rfl ?_
        refine ml_st (S' := (53, [(0, .ref r), (1, .int x1), (2, .int a0), (3, .int u9)], [.ref r, .int (x1 + 1)], M2)) rfl rfl rfl ?_
        refine tg_ref (S' := (56, [(0, .ref r), (1, .int x1), (2, .int a0), (3, .int u9)], [.ref c, .int (x1 + 1)], M2)) rfl hS7.1.1 hY0 (by decide) rfl rfl ?_
        refine ml_get (S' := (59, [(0, .ref r), (1, .int x1), (2, .int a0), (3, .int u9)], [.ref p, .int (x1 + 1)], M2)) rfl g6 rfl ?_
        refine tg_pint rfl hS7.1.1 hY4 rfl (fun u80 g81 => ?_)
        show ml _ _ _ (62, [(0, .ref r), (1, .int x1), (2, .int a0), (3, .int u9)], [.int u80, .int (x1 + 1)], M2) _
        refine ml_if2 (S1 := (76, [(0, .ref r), (1, .int x1), (2, .int a0), (3, .int u9)], [], M2)) (S2 := (65, [(0, .ref r), (1, .int x1), (2, .int a0), (3, .int u9)], [], M2)) rfl rfl rfl (fun c_62 => ?_) (fun c_62 => ?_)
        · have c_62 : (x1 + 1) < u80 := of_decide_eq_true c_62
          exact J_76 
        · have c_62 : ¬ ((x1 + 1) < u80) := of_decide_eq_false c_62
          refine ml_st (S' := (66, [(0, .ref r), (1, .int x1), (2, .int a0), (3, .int u9)], [.ref r], M2)) rfl rfl rfl ?_
          refine tg_ref (S' := (69, [(0, .ref r), (1, .int x1), (2, .int a0), (3, .int u9)], [.ref vd], M2)) rfl hS7.1.1 hY0 (by decide) rfl rfl ?_
          refine ml_blk 2 (S' := (72, [(0, .ref r), (1, .int x1), (2, .int a0), (3, .int u9)], [.int a0, .int 7, .ref vd], M2)) rfl ?_
          refine ml_call (a := [.ref vd, .int 7, .int a0]) (rest := []) rfl (okc_t rfl rfl rfl hS7.1.1 hY3 (by decide)) rfl rfl (tw_Ve_wrong hS7.1.1 hY3 (by omega)) (fun v82 M83 h84 => ?_)
          obtain ⟨rfl, h84⟩ := h84
          have g86 := h84.2.gf (nin_cons (ykne hY1 hY3 (by decide)) nin_nil) g6
          have g87 := h84.2.gf (nin_cons (ykne hY0 hY3 (by decide)) nin_nil) g10
          have hS88 := hS7.tr h84 (by simp)
          have hF89 := hF8.tr h84 (by simp)
          show ml _ _ _ (75, [(0, .ref r), (1, .int x1), (2, .int a0), (3, .int u9)], [.int 0], M83) _
          exact ml_ret rfl (r_z (Or.inl rfl)) (⟨⟨_, rfl, Or.inl rfl⟩, hS88⟩)
      refine ml_if2 (S1 := (49, [(0, .ref r), (1, .int x1), (2, .int a0), (3, .int u9)], [], M2)) (S2 := (43, [(3, .int u9), (2, .int a0), (0, .ref r), (1, .int x1)], [], M2)) rfl rfl rfl (fun c_40 => ?_) (fun c_40 => ?_)
      · have c_40 : u9 = 5 := of_decide_eq_true c_40
        exact J_49 
      · have c_40 : ¬ (u9 = 5) := of_decide_eq_false c_40
        refine ml_blk 2 (S' := (46, [(3, .int u9), (2, .int a0), (0, .ref r), (1, .int x1)], [.int 6, .int u9], M2)) rfl ?_
        refine ml_if2 (S1 := (76, [(0, .ref r), (1, .int x1), (2, .int a0), (3, .int u9)], [], M2)) (S2 := (49, [(0, .ref r), (1, .int x1), (2, .int a0), (3, .int u9)], [], M2)) rfl rfl rfl (fun c_46 => ?_) (fun c_46 => ?_)
        · have c_46 : ¬ u9 = 6 := of_decide_eq_true c_46
          exact J_76 
        · have c_46 : ¬ (¬ u9 = 6) := of_decide_eq_false c_46
          exact J_49 
    · have c_25 : ¬ (¬ u14 = 0) := of_decide_eq_false c_25
      refine ml_st (S' := (29, [(3, .int u9), (2, .int a0), (0, .ref r), (1, .int x1)], [.ref r], M2)) rfl rfl rfl ?_
      refine tg_ref (S' := (32, [(3, .int u9), (2, .int a0), (0, .ref r), (1, .int x1)], [.ref vd], M2)) rfl hS7.1.1 hY0 (by decide) rfl rfl ?_
      refine ml_blk 2 (S' := (34, [(3, .int u9), (2, .int a0), (0, .ref r), (1, .int x1)], [.int a0, .int 5, .ref vd], M2)) rfl ?_
      refine ml_call (a := [.ref vd, .int 5, .int a0]) (rest := []) rfl (okc_t rfl rfl rfl hS7.1.1 hY3 (by decide)) rfl rfl (tw_Ve_wrong hS7.1.1 hY3 (by omega)) (fun v90 M91 h92 => ?_)
      obtain ⟨rfl, h92⟩ := h92
      have g94 := h92.2.gf (nin_cons (ykne hY1 hY3 (by decide)) nin_nil) g6
      have g95 := h92.2.gf (nin_cons (ykne hY0 hY3 (by decide)) nin_nil) g10
      have hS96 := hS7.tr h92 (by simp)
      have hF97 := hF8.tr h92 (by simp)
      show ml _ _ _ (37, [(3, .int u9), (2, .int a0), (0, .ref r), (1, .int x1)], [.int 0], M91) _
      exact ml_ret rfl (r_z (Or.inl rfl)) (⟨⟨_, rfl, Or.inl rfl⟩, hS96⟩)
  · have c_10 : ¬ (¬ u4 = 0) := of_decide_eq_false c_10
    refine ml_st (S' := (14, [(2, .int a0), (0, .ref r), (1, .int x1)], [.int 0], M2)) rfl rfl rfl ?_
    exact ml_ret rfl (r_z (Or.inl rfl)) (⟨⟨_, rfl, Or.inl rfl⟩, hS7⟩)
end
section
/-! new cells: the types grow (my own text) -/
section MIA
variable {g : xe_G} {Y Y' Y1 Y2 : yT} {M M' M1 M2 : mi_H} {c s c' s' : Nat}
def le2 : List (Value → Prop) → List (Value → Prop) → Prop
  | [], [] => True
  | P :: l, P' :: l' => (∀ v, P v → P' v) ∧ le2 l l'
  | _, _ => False
theorem le2_rf : ∀ l, le2 l l
  | [] => trivial
  | _ :: l => ⟨fun _ h => h, le2_rf l⟩
theorem le2_get : ∀ {l l' : List (Value → Prop)}, le2 l l' → l.length = l'.length ∧ ∀ (j : Nat) P', l'[j]? = some P' → ∃ P, l[j]? = some P ∧ ∀ v, P v → P' v
  | [], [], _ => ⟨rfl, fun j P' h => by simp at h⟩
  | P :: l, P' :: l', ⟨h1, h2⟩ => by
    obtain ⟨a, b⟩ := le2_get h2
    refine ⟨by simp [a], fun j Q hQ => ?_⟩
    rcases j with _ | j
    · simp only [List.getElem?_cons_zero, Option.some.injEq] at hQ
      subst hQ
      exact ⟨P, rfl, h1⟩
    · exact b j Q hQ
theorem vo_mono {P P' : Nat → Prop} (h : ∀ b, P b → P' b) : ∀ v, vo P v → vo P' v := fun _ ⟨b, e, hb⟩ => ⟨b, e, h b hb⟩
theorem vn_mono {P P' : Nat → Prop} (h : ∀ b, P b → P' b) : ∀ v, vn P v → vn P' v := fun _ hv => hv.imp id (fun ⟨b, e, hb⟩ => ⟨b, e, h b hb⟩)
theorem sch_mono (h : yle Y Y') (k : Nat) (ps : List Nat) : le2 (sch Y k ps) (sch Y' k ps) := by
  have x7 : ∀ b, (∃ ps, Y.1 b = some (7, ps)) → ∃ ps, Y'.1 b = some (7, ps) := fun b ⟨ps, e⟩ => ⟨ps, (h _ _ e).1⟩
  have x23 : ∀ da n b, (∃ k, Y.1 b = some (23, [k, da, n])) → ∃ k, Y'.1 b = some (23, [k, da, n]) := fun da n b ⟨ps, e⟩ => ⟨ps, (h _ _ e).1⟩
  have x21 : ∀ b, (∃ n, Y.1 b = some (21, [n])) → ∃ n, Y'.1 b = some (21, [n]) := fun b ⟨ps, e⟩ => ⟨ps, (h _ _ e).1⟩
  have x4 : ∀ n b, (∃ p o, Y.1 b = some (4, [p, o, n])) → ∃ p o, Y'.1 b = some (4, [p, o, n]) := fun n b ⟨p, o, e⟩ => ⟨p, o, (h _ _ e).1⟩
  unfold sch
  split
  · exact le2_rf _
  · exact le2_rf _
  · exact le2_rf _
  · exact ⟨fun _ h => h, vo_mono x7, fun _ h => h, fun _ h => h, fun _ h => h, fun _ h => h, vo_mono (x23 _ _), vo_mono (x23 _ _), le2_rf _⟩
  · exact ⟨fun _ h => h, fun _ h => h, fun _ h => h, fun _ h => h, fun _ h => h, fun _ h => h, fun _ h => h, fun _ h => h, fun _ h => h, vn_mono x21, vn_mono x21, trivial⟩
  · exact le2_rf _
  · exact ⟨fun _ h => h, fun _ h => h, fun _ h => h, fun _ h => h, fun _ h => h, fun _ h => h, fun _ h => h, fun _ h => h, fun _ h => h, fun _ h => h, vn_mono (x4 _), trivial⟩
  · exact le2_rf _
  · exact le2_rf _
  · exact le2_rf _
  · exact le2_rf _
  · refine ⟨vo_mono (fun b ⟨m, e⟩ => ⟨m, (h _ _ e).1⟩), fun _ h => h, vo_mono (fun b ⟨n, e, hB⟩ => ⟨n, (h _ _ e).1, hB⟩), vn_mono (fun c ⟨b, da, n, e, hB⟩ => ⟨b, da, n, (h _ _ e).1, hB⟩), fun _ h => h, trivial⟩
  · exact le2_rf _
theorem lnk_mono (h : yle Y Y') {a k : Nat} {ps : List Nat} (hl : lnk Y a k ps) : lnk Y' a k ps := by
  unfold lnk at hl ⊢
  split at hl
  · obtain ⟨⟨da, n, h1, h2⟩, ⟨ps, h3⟩, h4⟩ := hl
    exact ⟨⟨da, n, (h _ _ h1).1, (h _ _ h2).1⟩, ⟨ps, (h _ _ h3).1⟩, (h _ _ h4).1⟩
  · exact (h _ _ hl).1
  · obtain ⟨⟨da, n, h1, h2⟩, ⟨ps, h3⟩, h4, h5⟩ := hl
    exact ⟨⟨da, n, (h _ _ h1).1, (h _ _ h2).1⟩, ⟨ps, (h _ _ h3).1⟩, (h _ _ h4).1, (h _ _ h5).1⟩
  · exact (h _ _ hl).1
  · obtain ⟨⟨ps, h3⟩, b, h4⟩ := hl
    exact ⟨⟨ps, (h _ _ h3).1⟩, b, (h _ _ h4).1⟩
  · obtain ⟨da, n, h3⟩ := hl
    exact ⟨da, n, (h _ _ h3).1⟩
  · exact (h _ _ hl).1
  · obtain ⟨h1, h2, h3, h4, h5, h6⟩ := hl
    exact ⟨(h _ _ h1).1, (h _ _ h2).1, (h _ _ h3).1, (h _ _ h4).1, (h _ _ h5).1, (h _ _ h6).1⟩
  · obtain ⟨⟨ps, h3⟩, h4⟩ := hl
    exact ⟨⟨ps, (h _ _ h3).1⟩, (h _ _ h4).1⟩
  · obtain ⟨⟨da, h1, h2⟩, h3⟩ := hl
    exact ⟨⟨da, (h _ _ h1).1, (h _ _ h2).1⟩, (h _ _ h3).1⟩
  · trivial
theorem xtr_mono (h : yle Y Y') {a k : Nat} {l : List Value} {ps : List Nat} (hl : lnk Y a k ps) (hx : xtr Y M l k ps) : xtr Y' M l k ps := by
  unfold xtr at hx ⊢
  split at hx
  · exact hx
  · exact hx
  · exact hx
  · obtain ⟨x, y, h1, h2, h3, h4⟩ := hx
    refine ⟨x, y, h1, h2, h3, ?_⟩
    rw [(h _ _ hl).2]
    exact h4
  · exact hx
  · exact hx
  · trivial
theorem sch_ne (h : yle Y Y') {k : Nat} {ps : List Nat} (hs : sch Y k ps ≠ []) : sch Y' k ps ≠ [] := by
  intro e
  have := (le2_get (sch_mono h k ps)).1
  rw [e] at this
  exact hs (List.eq_nil_of_length_eq_zero this)
theorem okY.mono (h : yle Y Y') {a k : Nat} {ps : List Nat} (hY : Y.1 a = some (k, ps)) (ho : okY Y M a k ps) : okY Y' M a k ps := by
  rcases ho with ⟨hk, l, h1, h2, h3, h4, h5⟩ | ⟨n, r, e, ty, f, h1, h2, h3, h4, h5, h6⟩ | ⟨hk, n, da, m, e, hn, f, h1, h2⟩
  · obtain ⟨a1, a2⟩ := le2_get (sch_mono h k ps)
    refine Or.inl ⟨hk, l, h1, sch_ne h h2, ⟨h3.1.trans a1, fun j v P hv hP => ?_⟩, lnk_mono h h4, xtr_mono h h4 h5⟩
    obtain ⟨P0, b1, b2⟩ := a2 j P hP
    exact b2 v (h3.2 j v P0 hv b1)
  · refine Or.inr (Or.inl ⟨n, r, e, ty, f, h1, h2, h3, h4, fun q => ?_, h6⟩)
    obtain ⟨c1, c2⟩ := h5 q
    exact ⟨by rw [(h _ _ hY).2]; exact c1, c2⟩
  · exact Or.inr (Or.inr ⟨hk, n, da, m, e, hn, f, h1, fun i b hb => (h _ _ (h2 i b hb)).1⟩)
/-- cells beside the typed ones may change -/
theorem okY.beside {a k : Nat} {ps : List Nat} (hM : ∀ x t, Y.1 x = some t → M'.1 x = M.1 x) (hY : Y.1 a = some (k, ps)) (ho : okY Y M a k ps) : okY Y M' a k ps := by
  have ha := hM a _ hY
  rcases ho with ⟨hk, l, h1, h2, h3, h4, h5⟩ | ⟨n, r, e, ty, f, h1, h2, h3⟩ | ⟨hk, n, da, m, e, hn, f, h1, h2⟩
  · refine Or.inl ⟨hk, l, ha.trans h1, h2, h3, h4, ?_⟩
    unfold xtr at h5 ⊢
    split at h5
    · exact h5
    · exact h5
    · exact h5
    · exact h5
    · obtain ⟨a1, a2, cc, sz, g1, g3, g4, b1, b2, b3, b4, b5, b6, b7⟩ := h5
      obtain ⟨k1, k2, k3, k4, k5, k6⟩ := h4
      exact ⟨a1, a2, cc, sz, g1, g3, g4, b1, b2, b3, (hM _ _ k1).trans b4, (hM _ _ k3).trans b5, (hM _ _ k4).trans b6, b7⟩
    · exact h5
    · trivial
  · exact Or.inr (Or.inl ⟨n, r, e, ty, f, h1, ha.trans h2, h3⟩)
  · exact Or.inr (Or.inr ⟨hk, n, da, m, e, hn, f, ha.trans h1, h2⟩)
/-- what a method that makes cells leaves behind -/
def sa (g : xe_G) (Y : yT) (M : mi_H) (Y' : yT) (M' : mi_H) (c s : Nat) : Prop :=
  WF g Y' M' ∧ yle Y Y' ∧ (∀ x, x < M.2.1 → Y'.1 x = Y.1 x) ∧ (M.2.1 ≤ M'.2.1 ∧ M'.2.1 ≤ M.2.1 + c ∧ M.2.2 ≤ M'.2.2 ∧ M'.2.2 ≤ M.2.2 + s) ∧ ∀ x, Y.1 x = none → x < M.2.1 → M'.1 x = M.1 x
theorem sa.rf (h : WF g Y M) : sa g Y M Y M 0 0 := ⟨h, yle.rf, fun _ _ => rfl, ⟨Nat.le_refl _, Nat.le_refl _, Nat.le_refl _, Nat.le_refl _⟩, fun _ _ _ => rfl⟩
theorem st.sa (h : st g Y M M') : sa g Y M Y M' 0 0 := ⟨h.1, yle.rf, fun _ _ => rfl, by rw [h.2.1]; exact ⟨Nat.le_refl _, Nat.le_refl _, Nat.le_refl _, Nat.le_refl _⟩, fun x hx _ => h.2.2 x hx⟩
theorem sa.tr (h : sa g Y M Y1 M1 c s) (h' : sa g Y1 M1 Y2 M2 c' s') : sa g Y M Y2 M2 (c + c') (s + s') := by
  obtain ⟨a1, a2, a3, a4, a5⟩ := h
  obtain ⟨b1, b2, b3, b4, b5⟩ := h'
  refine ⟨b1, a2.tr b2, fun x hx => (b3 x (by omega)).trans (a3 x hx), ⟨by omega, by omega, by omega, by omega⟩, fun x hx hl => ?_⟩
  exact (b5 x ((a3 x hl).trans hx) (by omega)).trans (a5 x hx hl)
theorem sa.le (h : sa g Y M Y1 M1 c s) (hc : c ≤ c') (hs : s ≤ s') : sa g Y M Y1 M1 c' s' := ⟨h.1, h.2.1, h.2.2.1, ⟨h.2.2.2.1.1, by have := h.2.2.2.1.2.1; omega, h.2.2.2.1.2.2.1, by have := h.2.2.2.1.2.2.2; omega⟩, h.2.2.2.2⟩
theorem sa.st (h : sa g Y M Y1 M1 c s) (h' : st g Y1 M1 M2) : sa g Y M Y1 M2 c s := h.tr h'.sa
/-- a cell is made at the end of the heap: not typed yet -/
def mk1 (M : mi_H) (cl : mi_C) (N : Nat) : mi_H := (va_up M.1 M.2.1 (some cl), M.2.1 + 1, M.2.2 + N)
theorem mk1_at {cl : mi_C} {N : Nat} : (mk1 M cl N).1 M.2.1 = some cl := by simp [mk1, va_up]
theorem mk1_ne {cl : mi_C} {N x : Nat} (h : x ≠ M.2.1) : (mk1 M cl N).1 x = M.1 x := by simp [mk1, va_up, h]
theorem WF.fresh (h : WF g Y M) {x : Nat} (hx : M.2.1 ≤ x) : Y.1 x = none := by
  cases hy : Y.1 x with
  | none => rfl
  | some t => exact absurd (h.2.1 x t hy) (by omega)
theorem WF.mk1 (h : WF g Y M) (cl : mi_C) (N : Nat) : WF g Y (mk1 M cl N) := by
  refine ⟨fun a k ps ha => (h.1 a k ps ha).beside (fun x t hx => mk1_ne ?_) ha, fun a t ha => ?_, fun k hk => ?_⟩
  · have := h.2.1 x t hx
    omega
  · have := h.2.1 a t ha
    show a < M.2.1 + 1
    omega
  · obtain ⟨hb, f, hf⟩ := h.2.2 k hk
    exact ⟨by show _ < M.2.1 + 1; omega, f, (mk1_ne (by omega)).trans hf⟩
/-- an untyped cell changes -/
theorem WF.free {a : Nat} {cl : mi_C} (h : WF g Y M) (ha : Y.1 a = none) (hl : ∀ k, k < 15 → g.2.1 k ≠ a) : WF g Y (up M a cl) := by
  refine ⟨fun b k ps hb => (h.1 b k ps hb).beside (fun x t hx => up_ne ?_) hb, h.2.1, fun k hk => ?_⟩
  · intro e
    rw [e, ha] at hx
    cases hx
  · obtain ⟨hb, f, hf⟩ := h.2.2 k hk
    exact ⟨hb, f, (up_ne (hl k hk)).trans hf⟩
/-- an address gets its type -/
def yadd (Y : yT) (a k : Nat) (ps : List Nat) : yT := (fun x => if x = a then some (k, ps) else Y.1 x, Y.2)
theorem yadd_at {a k : Nat} {ps : List Nat} : (yadd Y a k ps).1 a = some (k, ps) := by simp [yadd]
theorem yadd_ne {a k x : Nat} {ps : List Nat} (h : x ≠ a) : (yadd Y a k ps).1 x = Y.1 x := by simp [yadd, h]
theorem yadd_le {a k : Nat} {ps : List Nat} (h : Y.1 a = none) : yle Y (yadd Y a k ps) := by
  intro x t hx
  refine ⟨?_, rfl⟩
  rw [yadd_ne]
  · exact hx
  · intro e
    rw [e, h] at hx
    cases hx
theorem WF.add {a k : Nat} {ps : List Nat} (h : WF g Y M) (ha : Y.1 a = none) (hlt : a < M.2.1) (ho : okY (yadd Y a k ps) M a k ps) : WF g (yadd Y a k ps) M := by
  refine ⟨fun b kb pb hb => ?_, fun b t hb => ?_, h.2.2⟩
  · by_cases e : b = a
    · subst e
      rw [yadd_at] at hb
      cases hb
      exact ho
    · rw [yadd_ne e] at hb
      exact (h.1 b kb pb hb).mono (yadd_le ha) hb
  · by_cases e : b = a
    · subst e
      exact hlt
    · rw [yadd_ne e] at hb
      exact h.2.1 b t hb
/-- an object is made and typed -/
theorem sa.new {Y0 : yT} {M0 : mi_H} {k N : Nat} {ps : List Nat} {cl : mi_C} (h : sa g Y0 M0 Y M c s) (ho : okY (yadd Y M.2.1 k ps) (mk1 M cl N) M.2.1 k ps) : sa g Y0 M0 (yadd Y M.2.1 k ps) (mk1 M cl N) (c + 1) (s + N) := by
  have hn : Y.1 M.2.1 = none := h.1.fresh (Nat.le_refl _)
  have hw := (h.1.mk1 cl N).add hn (by show M.2.1 < M.2.1 + 1; omega) ho
  obtain ⟨a1, a2, a3, a4, a5⟩ := h
  refine ⟨hw, a2.tr (yadd_le hn), fun x hx => (yadd_ne (by omega)).trans (a3 x hx), ⟨?_, ?_, ?_, ?_⟩, fun x hx hl => (mk1_ne (by omega)).trans (a5 x hx hl)⟩
  · show M0.2.1 ≤ M.2.1 + 1
    omega
  · show M.2.1 + 1 ≤ M0.2.1 + (c + 1)
    omega
  · show M0.2.2 ≤ M.2.2 + N
    omega
  · show M.2.2 + N ≤ M0.2.2 + (s + N)
    omega
def fitl : List Value → List (Value → Prop) → Prop
  | [], [] => True
  | v :: l, P :: s => P v ∧ fitl l s
  | _, _ => False
theorem fit_of : ∀ {l : List Value} {s : List (Value → Prop)}, fitl l s → fit l s
  | [], [], _ => ⟨rfl, fun k v P h => by simp at h⟩
  | v :: l, P :: s, ⟨h1, h2⟩ => by
    have h3 := fit_of h2
    refine ⟨by simp [h3.1], fun k w P' hk hP => ?_⟩
    rcases k with _ | k
    · simp only [List.getElem?_cons_zero, Option.some.injEq] at hk hP
      subst hk hP
      exact h1
    · exact h3.2 k w P' hk hP
theorem okY_new {a k : Nat} {ps : List Nat} {vals : List Value} (hk : k < 12) (hM : M.1 a = some (ob k vals)) (hs : sch Y k ps ≠ []) (hf : fitl vals (sch Y k ps)) (hl : lnk Y a k ps) (hx : xtr Y M vals k ps) : okY Y M a k ps := Or.inl ⟨hk, vals, hM, hs, fit_of hf, hl, hx⟩
variable {T : Nat → Option (Nat × mi_B)} {d pc : Nat} {tb : mi_B} {lv : List (Nat × Value)} {s0 : List Value} {Q : Option Value → mi_H → Prop}
/-- rules: a new object, a field of it, the call of its maker -/
theorem ml_new {k N : Nat} {ds : List Value} {S' : mi_S} (h1 : tb.1 pc = some (.inl (o_new k N ds))) (e1 : mi_nk tb.2 (pc + 3, lv, .ref M.2.1 :: s0, mk1 M (ob k ds) N) = S') (kk : ml T d tb S' Q) : ml T d tb (pc, lv, s0, M) Q :=
  ml_st h1 (S1 := (pc + 3, lv, .ref M.2.1 :: s0, mk1 M (ob k ds) N)) rfl e1 kk
theorem up_up {a : Nat} {c1 c2 : mi_C} : up (up M a c1) a c2 = up M a c2 := by
  unfold up
  congr 1
  funext x
  by_cases h : x = a <;> simp [va_up, h]
theorem mk1_up {c1 c2 : mi_C} {N : Nat} : up (mk1 M c1 N) M.2.1 c2 = mk1 M c2 N := by
  unfold up mk1
  congr 1
  funext x
  by_cases h : x = M.2.1 <;> simp [va_up, h]
theorem mo_putn {k j N : Nat} {ty : FieldType} {l l' : List Value} {v : Value} {S' : mi_S} (h1 : tb.1 pc = some (.inl (o_put k j ty))) (hv : mi_fit ty v = true) (hj : decide (j < l.length) = true) (e : l.set j v = l') (e1 : mi_nk tb.2 (pc + 3, lv, s0, mk1 M (ob k l') N) = S') (kk : ml T d tb S' Q) : ml T d tb (pc, lv, v :: .ref M.2.1 :: s0, mk1 M (ob k l) N) Q :=
  mo_put h1 mk1_at hv (of_decide_eq_true hj) (by rw [mk1_up, e]; exact e1) kk
theorem okc_n {na k N : Nat} {st As l : List Value} (h1 : (st.take na).reverse = .ref M.2.1 :: As) (h2 : decide (na ≤ st.length) = true) (h3 : decide (((st.drop na).map fun v => v.category).sum ≤ 8) = true) : mi_okc (some k) na (pc, lv, st, mk1 M (ob k l) N) = true := okc_v h1 h2 h3 mk1_at
theorem ml_made {Y0 : yT} {M0 : mi_H} {k N : Nat} {ps : List Nat} {cl : mi_C} (h : sa g Y0 M0 Y M c s) (ho : okY (yadd Y M.2.1 k ps) (mk1 M cl N) M.2.1 k ps) (kk : ∀ Y' M', sa g Y0 M0 Y' M' (c + 1) (s + N) → yle Y Y' → Y'.1 M.2.1 = some (k, ps) → (∀ x, x < M.2.1 → M'.1 x = M.1 x) → M'.1 M.2.1 = some cl → M'.2 = (M.2.1 + 1, M.2.2 + N) → ml T d tb (pc, lv, s0, M') Q) : ml T d tb (pc, lv, s0, mk1 M cl N) Q :=
  kk _ _ (h.new ho) (yadd_le (h.1.fresh (Nat.le_refl _))) yadd_at (fun x hx => mk1_ne (by omega)) mk1_at rfl
theorem ml_newa {ty : FieldType} {x : Int32} {S' : mi_S} (h1 : tb.1 pc = some (.inl (o_newa ty))) (h0 : 0 ≤ x.toInt) (hx : x.toInt ≤ 134217728) (e1 : mi_nk tb.2 (pc + 2, lv, .ref M.2.1 :: s0, mk1 M (ar ty x.toNatClampNeg (fun _ => 0)) x.toNatClampNeg) = S') (kk : ml T d tb S' Q) : ml T d tb (pc, lv, .int x :: s0, M) Q := by
  refine ml_st h1 (S1 := (pc + 2, lv, .ref M.2.1 :: s0, mk1 M (ar ty x.toNatClampNeg (fun _ => 0)) x.toNatClampNeg)) ?_ e1 kk
  simp only [o_newa]
  rw [if_neg]
  · rfl
  · rintro (q | q)
    · exact nlt0 h0 q
    · have : x.toNatClampNeg = x.toInt.toNat := rfl
      omega
theorem ml_anew {C : String} {x : Int32} {S' : mi_S} (h1 : tb.1 pc = some (.inl (o_anew C))) (h0 : 0 ≤ x.toInt) (hx : x.toInt ≤ 134217728) (e1 : mi_nk tb.2 (pc + 3, lv, .ref M.2.1 :: s0, mk1 M (.inl (.object C, x.toNatClampNeg, fun _ => some .null)) x.toNatClampNeg) = S') (kk : ml T d tb S' Q) : ml T d tb (pc, lv, .int x :: s0, M) Q := by
  refine ml_st h1 (S1 := (pc + 3, lv, .ref M.2.1 :: s0, mk1 M (.inl (.object C, x.toNatClampNeg, fun _ => some .null)) x.toNatClampNeg)) ?_ e1 kk
  simp only [o_anew]
  rw [if_neg]
  · rfl
  · rintro (q | q)
    · exact nlt0 h0 q
    · have : x.toNatClampNeg = x.toInt.toNat := rfl
      omega
/-- only new cells: those that were there stay -/
def sn (g : xe_G) (Y : yT) (M : mi_H) (Y' : yT) (M' : mi_H) (c s : Nat) : Prop :=
  WF g Y' M' ∧ yle Y Y' ∧ (∀ x, x < M.2.1 → Y'.1 x = Y.1 x) ∧ (M.2.1 ≤ M'.2.1 ∧ M'.2.1 ≤ M.2.1 + c ∧ M.2.2 ≤ M'.2.2 ∧ M'.2.2 ≤ M.2.2 + s) ∧ ∀ x, x < M.2.1 → M'.1 x = M.1 x
theorem sn.sa (h : sn g Y M Y1 M1 c s) : sa g Y M Y1 M1 c s := ⟨h.1, h.2.1, h.2.2.1, h.2.2.2.1, fun x _ hl => h.2.2.2.2 x hl⟩
theorem sn.rf (h : WF g Y M) : sn g Y M Y M 0 0 := ⟨h, yle.rf, fun _ _ => rfl, ⟨Nat.le_refl _, Nat.le_refl _, Nat.le_refl _, Nat.le_refl _⟩, fun _ _ => rfl⟩
theorem sn.tr (h : sn g Y M Y1 M1 c s) (h' : sn g Y1 M1 Y2 M2 c' s') : sn g Y M Y2 M2 (c + c') (s + s') := by
  obtain ⟨a1, a2, a3, a4, a5⟩ := h
  obtain ⟨b1, b2, b3, b4, b5⟩ := h'
  exact ⟨b1, a2.tr b2, fun x hx => (b3 x (by omega)).trans (a3 x hx), ⟨by omega, by omega, by omega, by omega⟩, fun x hl => (b5 x (by omega)).trans (a5 x hl)⟩
theorem sn.le (h : sn g Y M Y1 M1 c s) (hc : c ≤ c') (hs : s ≤ s') : sn g Y M Y1 M1 c' s' := ⟨h.1, h.2.1, h.2.2.1, ⟨h.2.2.2.1.1, by have := h.2.2.2.1.2.1; omega, h.2.2.2.1.2.2.1, by have := h.2.2.2.1.2.2.2; omega⟩, h.2.2.2.2⟩
theorem sn.new {k N : Nat} {ps : List Nat} {cl : mi_C} (h : WF g Y M) (ho : okY (yadd Y M.2.1 k ps) (mk1 M cl N) M.2.1 k ps) : sn g Y M (yadd Y M.2.1 k ps) (mk1 M cl N) 1 N := by
  have h1 := (sa.rf h).new ho
  simp only [Nat.zero_add] at h1
  exact ⟨h1.1, h1.2.1, h1.2.2.1, h1.2.2.2.1, fun x hl => mk1_ne (by omega)⟩
/-- new cells, and of the old ones those of a list written -/
def sv (g : xe_G) (Y : yT) (M : mi_H) (Y' : yT) (M' : mi_H) (S : List Nat) (c s : Nat) : Prop := sa g Y M Y' M' c s ∧ ∀ x, x ∉ S → x < M.2.1 → M'.1 x = M.1 x
theorem sv.rf {S : List Nat} (h : WF g Y M) : sv g Y M Y M S 0 0 := ⟨sa.rf h, fun _ _ _ => rfl⟩
theorem sv.tr {S : List Nat} (h : sv g Y M Y1 M1 S c s) (h' : sv g Y1 M1 Y2 M2 S c' s') : sv g Y M Y2 M2 S (c + c') (s + s') := ⟨h.1.tr h'.1, fun x hx hl => (h'.2 x hx (by have := h.1.2.2.2.1.1; omega)).trans (h.2 x hx hl)⟩
theorem sv.sn {S : List Nat} (h : sv g Y M Y1 M1 S c s) (h' : sn g Y1 M1 Y2 M2 c' s') : sv g Y M Y2 M2 S (c + c') (s + s') := h.tr ⟨h'.sa, fun x _ hl => h'.2.2.2.2 x hl⟩
theorem sv.sf {S : List Nat} (h : sv g Y M Y1 M1 S c s) (h' : sf g Y1 S M1 M2) : sv g Y M Y1 M2 S c s := ⟨h.1.st h'.1, fun x hx hl => (h'.2 x hx).trans (h.2 x hx hl)⟩
theorem sv.le {S : List Nat} (h : sv g Y M Y1 M1 S c s) (hc : c ≤ c') (hs : s ≤ s') : sv g Y M Y1 M1 S c' s' := ⟨h.1.le hc hs, h.2⟩
/-- an object that is being made, at the end of the heap M -/
def sm (g : xe_G) (Y : yT) (M : mi_H) (Y1 : yT) (M1 : mi_H) (l : List Value) (k c s : Nat) : Prop := sn g Y M Y1 M1 c s ∧ M1.1 M.2.1 = some (ob k l) ∧ Y1.1 M.2.1 = none ∧ M.2.1 < M1.2.1
theorem sm.mk {k N : Nat} {l : List Value} (h : WF g Y M) : sm g Y M Y (mk1 M (ob k l) N) l k 1 N := by
  refine ⟨⟨h.mk1 _ _, yle.rf, fun _ _ => rfl, ⟨?_, Nat.le_refl _, ?_, Nat.le_refl _⟩, fun x hl => mk1_ne (by omega)⟩, mk1_at, h.fresh (Nat.le_refl _), ?_⟩
  · show M.2.1 ≤ M.2.1 + 1
    omega
  · show M.2.2 ≤ M.2.2 + N
    omega
  · show M.2.1 < M.2.1 + 1
    omega
theorem sm.lit {l : List Value} {k : Nat} (h : sm g Y M Y1 M1 l k c s) (hW : WF g Y M) : ∀ i, i < 15 → g.2.1 i ≠ M.2.1 := fun i hi => by
  have := (hW.2.2 i hi).1
  omega
theorem sm.put {l l' : List Value} {k : Nat} (hW : WF g Y M) (h : sm g Y M Y1 M1 l k c s) : sm g Y M Y1 (up M1 M.2.1 (ob k l')) l' k c s := by
  obtain ⟨⟨a1, a2, a3, a4, a5⟩, b1, b2, b3⟩ := h
  refine ⟨⟨a1.free b2 (fun i hi => ?_), a2, a3, a4, fun x hl => (up_ne (by omega)).trans (a5 x hl)⟩, up_at, b2, b3⟩
  have := (hW.2.2 i hi).1
  omega
theorem sm.tr {l : List Value} {k : Nat} (h : sm g Y M Y1 M1 l k c s) (h' : sn g Y1 M1 Y2 M2 c' s') : sm g Y M Y2 M2 l k (c + c') (s + s') := by
  obtain ⟨a1, a2, a3, a4⟩ := h
  exact ⟨a1.tr h', (h'.2.2.2.2 _ a4).trans a2, (h'.2.2.1 _ a4).trans a3, by have := h'.2.2.2.1.1; omega⟩
theorem sm.done {l : List Value} {k : Nat} {ps : List Nat} (h : sm g Y M Y1 M1 l k c s) (ho : okY (yadd Y1 M.2.1 k ps) M1 M.2.1 k ps) : sn g Y M (yadd Y1 M.2.1 k ps) M1 c s := by
  obtain ⟨⟨a1, a2, a3, a4, a5⟩, b1, b2, b3⟩ := h
  exact ⟨a1.add b2 b3 ho, a2.tr (yadd_le b2), fun x hx => (yadd_ne (by omega)).trans (a3 x hx), a4, a5⟩
theorem mm_put {k j : Nat} {ty : FieldType} {l l' : List Value} {v : Value} (h1 : tb.1 pc = some (.inl (o_put k j ty))) (hW : WF g Y M) (hM : sm g Y M Y1 M1 l k c s) (hv : mi_fit ty v = true) (hj : decide (j < l.length) = true) (e : l.set j v = l') (kk : ∀ M2, sm g Y M Y1 M2 l' k c s → (∀ x, x ≠ M.2.1 → M2.1 x = M1.1 x) → ml T d tb (mi_nk tb.2 (pc + 3, lv, s0, M2)) Q) : ml T d tb (pc, lv, v :: .ref M.2.1 :: s0, M1) Q :=
  mo_put h1 hM.2.1 hv (of_decide_eq_true hj) rfl (kk _ (by rw [e]; exact hM.put hW) (fun x hx => up_ne hx))
theorem ne_non {x a : Nat} {t : Nat × List Nat} (h : Y.1 x = some t) (h' : Y.1 a = none) : x ≠ a := by
  intro e
  rw [e, h'] at h
  cases h
theorem mm_new {k N : Nat} {ds : List Value} (h1 : tb.1 pc = some (.inl (o_new k N ds))) (hW : WF g Y M) (kk : ∀ M1, sm g Y M Y M1 ds k 1 N → ml T d tb (mi_nk tb.2 (pc + 3, lv, .ref M.2.1 :: s0, M1)) Q) : ml T d tb (pc, lv, s0, M) Q :=
  ml_new h1 rfl (kk _ (sm.mk hW))
theorem mm_done {k : Nat} {l : List Value} {ps : List Nat} (hM : sm g Y M Y1 M1 l k c s) (ho : okY (yadd Y1 M.2.1 k ps) M1 M.2.1 k ps) {R : Prop} (kk : ∀ Y2, sn g Y M Y2 M1 c s → yle Y1 Y2 → Y2.1 M.2.1 = some (k, ps) → R) : R := kk _ (hM.done ho) (yadd_le hM.2.2.1) yadd_at
/-- a new row -/
theorem mm_row {kr : Nat} {pr : List Nat} {cl : mi_C} {N : Nat} (hW : WF g Y M) (ho : okY (yadd Y M.2.1 kr pr) (mk1 M cl N) M.2.1 kr pr) (kk : ∀ Y2 M2 b, b = M.2.1 → sn g Y M Y2 M2 1 N → Y2.1 b = some (kr, pr) → M2.1 b = some cl → (∀ x, x < M.2.1 → M2.1 x = M.1 x) → ml T d tb (pc, lv, .ref b :: s0, M2) Q) : ml T d tb (pc, lv, .ref M.2.1 :: s0, mk1 M cl N) Q := by
  have h := sn.new hW ho
  exact kk _ _ _ rfl h yadd_at mk1_at (fun x hx => mk1_ne (by omega))
theorem okY_row {k n N : Nat} {r : List Nat} {ty : FieldType} (hk : rowT k = some ty) (hn : n < 1073741824) (h24 : k ≠ 24) (h20 : k = 20 → fits .byte (.int 0) = true) (h36 : k = 36 → ch16 0) : okY (yadd Y M.2.1 k (n :: r)) (mk1 M (ar ty n (fun _ => 0)) N) M.2.1 k (n :: r) :=
  Or.inr (Or.inl ⟨n, r, rfl, ty, fun _ => 0, hk, mk1_at, hn, fun h _ => h20 h, fun h => absurd h h24, fun h _ => h36 h⟩)
theorem okY_mem {n da m N : Nat} (hn : n < 1073741824 ∧ 8 * n ≤ m) : okY (yadd Y M.2.1 23 [n, da, m]) (mk1 M (.inl (.object "ClassGate$Member", n, fun _ => some .null)) N) M.2.1 23 [n, da, m] :=
  Or.inr (Or.inr ⟨rfl, n, da, m, rfl, hn, fun _ => none, mk1_at, fun i b h => by cases h⟩)
end MIA
end
section
/-! objects are made (laid by wip/p2/c52.py) -/
set_option maxHeartbeats 2000000 in
theorem tk_Verdict {g : xe_G} {M M1 : mi_H} {Y Y1 : yT} {c9 s9 : Nat}  (hW : WF g Y M) (hM : sm g Y M Y1 M1 [.int 0, .int 0] 10 c9 s9) {d : Nat} (hd : 1 ≤ d) : mt (mT g) d 171 [.ref M.2.1] M1 (fun v M' => v = none ∧ ∃ Y2, sm g Y M Y2 M' [.int 0, .int (-1)] 10 (c9 + 0) (s9 + 0) ∧ yle Y1 Y2) := by
  obtain ⟨d, rfl⟩ : ∃ e, d = e + 1 := ⟨d - 1, by omega⟩
  refine mt_in (b := mb_171 g) rfl rfl ?_
  show ml (mT g) d (mb_171 g).2 (0, [(0, .ref M.2.1)], [], M1) _
  refine ml_st (S' := (1, [(0, .ref M.2.1)], [.ref M.2.1], M1)) rfl rfl rfl ?_
  refine ml_st (S' := (4, [(0, .ref M.2.1)], [], M1)) rfl rfl rfl ?_
  refine ml_blk 2 (S' := (6, [(0, .ref M.2.1)], [.int (-1), .ref M.2.1], M1)) rfl ?_
  refine mm_put (l' := [.int 0, .int (-1)]) rfl hW hM rfl rfl rfl (fun M11 hM12 f13 => ?_)
  show ml _ _ _ (9, [(0, .ref M.2.1)], [], M11) _
  exact ml_ret rfl (rfl) (⟨rfl, Y1, hM12, yle.rf⟩)
set_option maxHeartbeats 2000000 in
theorem tk_Bytes {g : xe_G} {M M1 : mi_H} {Y Y1 : yT} {c9 s9 : Nat} {da : Nat}  (hW : WF g Y M) (hM : sm g Y M Y1 M1 [.null] 1 c9 s9) {d : Nat} (hd : 1 ≤ d) : mt (mT g) d 44 [.ref M.2.1, .ref da] M1 (fun v M' => v = none ∧ ∃ Y2, sm g Y M Y2 M' [.ref da] 1 (c9 + 0) (s9 + 0) ∧ yle Y1 Y2) := by
  obtain ⟨d, rfl⟩ : ∃ e, d = e + 1 := ⟨d - 1, by omega⟩
  refine mt_in (b := mb_44 g) rfl rfl ?_
  show ml (mT g) d (mb_44 g).2 (0, [(0, .ref M.2.1), (1, .ref da)], [], M1) _
  refine ml_st (S' := (1, [(0, .ref M.2.1), (1, .ref da)], [.ref M.2.1], M1)) rfl rfl rfl ?_
  refine ml_st (S' := (4, [(0, .ref M.2.1), (1, .ref da)], [], M1)) rfl rfl rfl ?_
  refine ml_blk 2 (S' := (6, [(0, .ref M.2.1), (1, .ref da)], [.ref da, .ref M.2.1], M1)) rfl ?_
  refine mm_put (l' := [.ref da]) rfl hW hM rfl rfl rfl (fun M11 hM12 f13 => ?_)
  show ml _ _ _ (9, [(0, .ref M.2.1), (1, .ref da)], [], M11) _
  exact ml_ret rfl (rfl) (⟨rfl, Y1, hM12, yle.rf⟩)
set_option maxHeartbeats 2000000 in
theorem tk_Member {g : xe_G} {M M1 : mi_H} {Y Y1 : yT} {c9 s9 : Nat} {b da n : Nat} {x2 : Int32}  (hW : WF g Y M) (hM : sm g Y M Y1 M1 [.int 0, .int 0, .int 0, .int 0, .int 0, .int 0, .int 0, .int 0, .int 0, .int 0, .null] 6 c9 s9) (hY0 : Y1.1 b = some (1, [da, n])) {d : Nat} (hd : 2 ≤ d) : mt (mT g) d 106 [.ref M.2.1, .ref b, .int x2] M1 (fun v M' => v = none ∧ ∃ Y2, sm g Y M Y2 M' [.int x2, .int (sp_u2 n (Y1.2 da) x2), .int (sp_u2 n (Y1.2 da) (x2 + 2)), .int (sp_u2 n (Y1.2 da) (x2 + 4)), .int (sp_u2 n (Y1.2 da) (x2 + 6)), .int (x2 + 8), .int 0, .int 0, .int 0, .int 0, .null] 6 (c9 + 0) (s9 + 0) ∧ yle Y1 Y2) := by
  obtain ⟨d, rfl⟩ : ∃ e, d = e + 1 := ⟨d - 1, by omega⟩
  refine mt_in (b := mb_106 g) rfl rfl ?_
  show ml (mT g) d (mb_106 g).2 (0, [(0, .ref M.2.1), (1, .ref b), (2, .int x2)], [], M1) _
  refine ml_st (S' := (1, [(0, .ref M.2.1), (1, .ref b), (2, .int x2)], [.ref M.2.1], M1)) rfl rfl rfl ?_
  refine ml_st (S' := (4, [(0, .ref M.2.1), (1, .ref b), (2, .int x2)], [], M1)) rfl rfl rfl ?_
  refine ml_blk 2 (S' := (6, [(0, .ref M.2.1), (1, .ref b), (2, .int x2)], [.int x2, .ref M.2.1], M1)) rfl ?_
  refine mm_put (l' := [.int x2, .int 0, .int 0, .int 0, .int 0, .int 0, .int 0, .int 0, .int 0, .int 0, .null]) rfl hW hM rfl rfl rfl (fun M11 hM12 f13 => ?_)
  show ml _ _ _ (9, [(0, .ref M.2.1), (1, .ref b), (2, .int x2)], [], M11) _
  refine ml_blk 3 (S' := (12, [(0, .ref M.2.1), (1, .ref b), (2, .int x2)], [.int x2, .ref b, .ref M.2.1], M11)) rfl ?_
  refine ml_call (a := [.ref b, .int x2]) (rest := [.ref M.2.1]) rfl (okc_t rfl rfl rfl hM12.1.1 hY0 (by decide)) rfl rfl (ct_u2 (hM12.1.1.bytes hY0).1 (by omega)) (fun v14 M15 h16 => ?_)
  obtain ⟨rfl, h16⟩ := h16
  rw [h16]
  show ml _ _ _ (15, [(0, .ref M.2.1), (1, .ref b), (2, .int x2)], [.int (sp_u2 n (Y1.2 da) x2), .ref M.2.1], M11) _
  refine mm_put (l' := [.int x2, .int (sp_u2 n (Y1.2 da) x2), .int 0, .int 0, .int 0, .int 0, .int 0, .int 0, .int 0, .int 0, .null]) rfl hW hM12 rfl rfl rfl (fun M17 hM18 f19 => ?_)
  show ml _ _ _ (18, [(0, .ref M.2.1), (1, .ref b), (2, .int x2)], [], M17) _
  refine ml_blk 3 (S' := (21, [(0, .ref M.2.1), (1, .ref b), (2, .int x2)], [.int x2, .ref b, .ref M.2.1], M17)) rfl ?_
  refine ml_blk 2 (S' := (23, [(0, .ref M.2.1), (1, .ref b), (2, .int x2)], [.int (x2 + 2), .ref b, .ref M.2.1], M17)) rfl ?_
  refine ml_call (a := [.ref b, .int (x2 + 2)]) (rest := [.ref M.2.1]) rfl (okc_t rfl rfl rfl hM18.1.1 hY0 (by decide)) rfl rfl (ct_u2 (hM18.1.1.bytes hY0).1 (by omega)) (fun v20 M21 h22 => ?_)
  obtain ⟨rfl, h22⟩ := h22
  rw [h22]
  show ml _ _ _ (26, [(0, .ref M.2.1), (1, .ref b), (2, .int x2)], [.int (sp_u2 n (Y1.2 da) (x2 + 2)), .ref M.2.1], M17) _
  refine mm_put (l' := [.int x2, .int (sp_u2 n (Y1.2 da) x2), .int (sp_u2 n (Y1.2 da) (x2 + 2)), .int 0, .int 0, .int 0, .int 0, .int 0, .int 0, .int 0, .null]) rfl hW hM18 rfl rfl rfl (fun M23 hM24 f25 => ?_)
  show ml _ _ _ (29, [(0, .ref M.2.1), (1, .ref b), (2, .int x2)], [], M23) _
  refine ml_blk 3 (S' := (32, [(0, .ref M.2.1), (1, .ref b), (2, .int x2)], [.int x2, .ref b, .ref M.2.1], M23)) rfl ?_
  refine ml_blk 2 (S' := (34, [(0, .ref M.2.1), (1, .ref b), (2, .int x2)], [.int (x2 + 4), .ref b, .ref M.2.1], M23)) rfl ?_
  refine ml_call (a := [.ref b, .int (x2 + 4)]) (rest := [.ref M.2.1]) rfl (okc_t rfl rfl rfl hM24.1.1 hY0 (by decide)) rfl rfl (ct_u2 (hM24.1.1.bytes hY0).1 (by omega)) (fun v26 M27 h28 => ?_)
  obtain ⟨rfl, h28⟩ := h28
  rw [h28]
  show ml _ _ _ (37, [(0, .ref M.2.1), (1, .ref b), (2, .int x2)], [.int (sp_u2 n (Y1.2 da) (x2 + 4)), .ref M.2.1], M23) _
  refine mm_put (l' := [.int x2, .int (sp_u2 n (Y1.2 da) x2), .int (sp_u2 n (Y1.2 da) (x2 + 2)), .int (sp_u2 n (Y1.2 da) (x2 + 4)), .int 0, .int 0, .int 0, .int 0, .int 0, .int 0, .null]) rfl hW hM24 rfl rfl rfl (fun M29 hM30 f31 => ?_)
  show ml _ _ _ (40, [(0, .ref M.2.1), (1, .ref b), (2, .int x2)], [], M29) _
  refine ml_blk 3 (S' := (43, [(0, .ref M.2.1), (1, .ref b), (2, .int x2)], [.int x2, .ref b, .ref M.2.1], M29)) rfl ?_
  refine ml_blk 2 (S' := (46, [(0, .ref M.2.1), (1, .ref b), (2, .int x2)], [.int (x2 + 6), .ref b, .ref M.2.1], M29)) rfl ?_
  refine ml_call (a := [.ref b, .int (x2 + 6)]) (rest := [.ref M.2.1]) rfl (okc_t rfl rfl rfl hM30.1.1 hY0 (by decide)) rfl rfl (ct_u2 (hM30.1.1.bytes hY0).1 (by omega)) (fun v32 M33 h34 => ?_)
  obtain ⟨rfl, h34⟩ := h34
  rw [h34]
  show ml _ _ _ (49, [(0, .ref M.2.1), (1, .ref b), (2, .int x2)], [.int (sp_u2 n (Y1.2 da) (x2 + 6)), .ref M.2.1], M29) _
  refine mm_put (l' := [.int x2, .int (sp_u2 n (Y1.2 da) x2), .int (sp_u2 n (Y1.2 da) (x2 + 2)), .int (sp_u2 n (Y1.2 da) (x2 + 4)), .int (sp_u2 n (Y1.2 da) (x2 + 6)), .int 0, .int 0, .int 0, .int 0, .int 0, .null]) rfl hW hM30 rfl rfl rfl (fun M35 hM36 f37 => ?_)
  show ml _ _ _ (52, [(0, .ref M.2.1), (1, .ref b), (2, .int x2)], [], M35) _
  refine ml_blk 3 (S' := (56, [(0, .ref M.2.1), (1, .ref b), (2, .int x2)], [.int 8, .int x2, .ref M.2.1], M35)) rfl ?_
  refine ml_st (S' := (57, [(0, .ref M.2.1), (1, .ref b), (2, .int x2)], [.int (x2 + 8), .ref M.2.1], M35)) rfl rfl rfl ?_
  refine mm_put (l' := [.int x2, .int (sp_u2 n (Y1.2 da) x2), .int (sp_u2 n (Y1.2 da) (x2 + 2)), .int (sp_u2 n (Y1.2 da) (x2 + 4)), .int (sp_u2 n (Y1.2 da) (x2 + 6)), .int (x2 + 8), .int 0, .int 0, .int 0, .int 0, .null]) rfl hW hM36 rfl rfl rfl (fun M38 hM39 f40 => ?_)
  show ml _ _ _ (60, [(0, .ref M.2.1), (1, .ref b), (2, .int x2)], [], M38) _
  exact ml_ret rfl (rfl) (⟨rfl, Y1, hM39, yle.rf⟩)
set_option maxHeartbeats 2000000 in
theorem tk_Instruction {g : xe_G} {M M1 : mi_H} {Y Y1 : yT} {c9 s9 : Nat} {b : Nat} {x2 x3 : Int32}  (hW : WF g Y M) (hM : sm g Y M Y1 M1 [.null, .int 0, .int 0, .int 0, .int 0, .int 0, .int 0, .int 0, .int 0, .int 0, .int 0, .int 0] 5 c9 s9) {d : Nat} (hd : 1 ≤ d) : mt (mT g) d 86 [.ref M.2.1, .ref b, .int x2, .int x3] M1 (fun v M' => v = none ∧ ∃ Y2, sm g Y M Y2 M' [.ref b, .int x2, .int x3, .int 0, .int 0, .int 0, .int 0, .int 0, .int 0, .int 0, .int 0, .int 0] 5 (c9 + 0) (s9 + 0) ∧ yle Y1 Y2) := by
  obtain ⟨d, rfl⟩ : ∃ e, d = e + 1 := ⟨d - 1, by omega⟩
  refine mt_in (b := mb_86 g) rfl rfl ?_
  show ml (mT g) d (mb_86 g).2 (0, [(0, .ref M.2.1), (1, .ref b), (2, .int x2), (3, .int x3)], [], M1) _
  refine ml_st (S' := (1, [(0, .ref M.2.1), (1, .ref b), (2, .int x2), (3, .int x3)], [.ref M.2.1], M1)) rfl rfl rfl ?_
  refine ml_st (S' := (4, [(0, .ref M.2.1), (1, .ref b), (2, .int x2), (3, .int x3)], [], M1)) rfl rfl rfl ?_
  refine ml_blk 2 (S' := (6, [(0, .ref M.2.1), (1, .ref b), (2, .int x2), (3, .int x3)], [.ref b, .ref M.2.1], M1)) rfl ?_
  refine mm_put (l' := [.ref b, .int 0, .int 0, .int 0, .int 0, .int 0, .int 0, .int 0, .int 0, .int 0, .int 0, .int 0]) rfl hW hM rfl rfl rfl (fun M11 hM12 f13 => ?_)
  show ml _ _ _ (9, [(0, .ref M.2.1), (1, .ref b), (2, .int x2), (3, .int x3)], [], M11) _
  refine ml_blk 2 (S' := (11, [(0, .ref M.2.1), (1, .ref b), (2, .int x2), (3, .int x3)], [.int x2, .ref M.2.1], M11)) rfl ?_
  refine mm_put (l' := [.ref b, .int x2, .int 0, .int 0, .int 0, .int 0, .int 0, .int 0, .int 0, .int 0, .int 0, .int 0]) rfl hW hM12 rfl rfl rfl (fun M14 hM15 f16 => ?_)
  show ml _ _ _ (14, [(0, .ref M.2.1), (1, .ref b), (2, .int x2), (3, .int x3)], [], M14) _
  refine ml_blk 2 (S' := (16, [(0, .ref M.2.1), (1, .ref b), (2, .int x2), (3, .int x3)], [.int x3, .ref M.2.1], M14)) rfl ?_
  refine mm_put (l' := [.ref b, .int x2, .int x3, .int 0, .int 0, .int 0, .int 0, .int 0, .int 0, .int 0, .int 0, .int 0]) rfl hW hM15 rfl rfl rfl (fun M17 hM18 f19 => ?_)
  show ml _ _ _ (19, [(0, .ref M.2.1), (1, .ref b), (2, .int x2), (3, .int x3)], [], M17) _
  exact ml_ret rfl (rfl) (⟨rfl, Y1, hM18, yle.rf⟩)
set_option maxHeartbeats 2000000 in
theorem tk_Reader {g : xe_G} {M M1 : mi_H} {Y Y1 : yT} {c9 s9 : Nat} {c b da n vd : Nat}  (hW : WF g Y M) (hM : sm g Y M Y1 M1 [.null, .null, .null, .int 0, .int 0] 9 c9 s9) (hY0 : Y1.1 c = some (3, [b, da, n])) {d : Nat} (hd : 1 ≤ d) : mt (mT g) d 154 [.ref M.2.1, .ref c, .ref vd] M1 (fun v M' => v = none ∧ ∃ Y2, sm g Y M Y2 M' [.ref c, .ref b, .ref vd, .int 0, .int 0] 9 (c9 + 0) (s9 + 0) ∧ yle Y1 Y2) := by
  obtain ⟨d, rfl⟩ : ∃ e, d = e + 1 := ⟨d - 1, by omega⟩
  refine mt_in (b := mb_154 g) rfl rfl ?_
  show ml (mT g) d (mb_154 g).2 (0, [(0, .ref M.2.1), (1, .ref c), (2, .ref vd)], [], M1) _
  refine ml_st (S' := (1, [(0, .ref M.2.1), (1, .ref c), (2, .ref vd)], [.ref M.2.1], M1)) rfl rfl rfl ?_
  refine ml_st (S' := (4, [(0, .ref M.2.1), (1, .ref c), (2, .ref vd)], [], M1)) rfl rfl rfl ?_
  refine ml_blk 2 (S' := (6, [(0, .ref M.2.1), (1, .ref c), (2, .ref vd)], [.ref c, .ref M.2.1], M1)) rfl ?_
  refine mm_put (l' := [.ref c, .null, .null, .int 0, .int 0]) rfl hW hM rfl rfl rfl (fun M11 hM12 f13 => ?_)
  show ml _ _ _ (9, [(0, .ref M.2.1), (1, .ref c), (2, .ref vd)], [], M11) _
  refine ml_blk 2 (S' := (11, [(0, .ref M.2.1), (1, .ref c), (2, .ref vd)], [.ref vd, .ref M.2.1], M11)) rfl ?_
  refine mm_put (l' := [.ref c, .null, .ref vd, .int 0, .int 0]) rfl hW hM12 rfl rfl rfl (fun M14 hM15 f16 => ?_)
  show ml _ _ _ (14, [(0, .ref M.2.1), (1, .ref c), (2, .ref vd)], [], M14) _
  refine ml_blk 2 (S' := (16, [(0, .ref M.2.1), (1, .ref c), (2, .ref vd)], [.ref c, .ref M.2.1], M14)) rfl ?_
  refine tg_ref (S' := (19, [(0, .ref M.2.1), (1, .ref c), (2, .ref vd)], [.ref b, .ref M.2.1], M14)) rfl hM15.1.1 hY0 (by decide) rfl rfl ?_
  refine mm_put (l' := [.ref c, .ref b, .ref vd, .int 0, .int 0]) rfl hW hM15 rfl rfl rfl (fun M17 hM18 f19 => ?_)
  show ml _ _ _ (22, [(0, .ref M.2.1), (1, .ref c), (2, .ref vd)], [], M17) _
  exact ml_ret rfl (rfl) (⟨rfl, Y1, hM18, yle.rf⟩)
set_option maxHeartbeats 2000000 in
theorem tk_PoolCheck {g : xe_G} {M M1 : mi_H} {Y Y1 : yT} {c9 s9 : Nat} {c b da n vd p : Nat} {mj : Int32}  (hW : WF g Y M) (hM : sm g Y M Y1 M1 [.null, .int 0, .null] 8 c9 s9) (hY0 : Y1.1 c = some (3, [b, da, n])) (hcp : mi_gf M1 c 3 1 = some (.ref p)) (hcm : mi_gf M1 c 3 3 = some (.int mj)) {d : Nat} (hd : 1 ≤ d) : mt (mT g) d 143 [.ref M.2.1, .ref c, .ref vd] M1 (fun v M' => v = none ∧ ∃ Y2, sm g Y M Y2 M' [.ref p, .int mj, .ref vd] 8 (c9 + 0) (s9 + 0) ∧ yle Y1 Y2) := by
  obtain ⟨d, rfl⟩ : ∃ e, d = e + 1 := ⟨d - 1, by omega⟩
  refine mt_in (b := mb_143 g) rfl rfl ?_
  show ml (mT g) d (mb_143 g).2 (0, [(0, .ref M.2.1), (1, .ref c), (2, .ref vd)], [], M1) _
  refine ml_st (S' := (1, [(0, .ref M.2.1), (1, .ref c), (2, .ref vd)], [.ref M.2.1], M1)) rfl rfl rfl ?_
  refine ml_st (S' := (4, [(0, .ref M.2.1), (1, .ref c), (2, .ref vd)], [], M1)) rfl rfl rfl ?_
  refine ml_blk 2 (S' := (6, [(0, .ref M.2.1), (1, .ref c), (2, .ref vd)], [.ref c, .ref M.2.1], M1)) rfl ?_
  refine ml_get (S' := (9, [(0, .ref M.2.1), (1, .ref c), (2, .ref vd)], [.ref p, .ref M.2.1], M1)) rfl hcp rfl ?_
  refine mm_put (l' := [.ref p, .int 0, .null]) rfl hW hM rfl rfl rfl (fun M11 hM12 f13 => ?_)
  have g14 := gf_fr (f13 c (ne_non hY0 hM.2.2.1)) hcp
  have g15 := gf_fr (f13 c (ne_non hY0 hM.2.2.1)) hcm
  show ml _ _ _ (12, [(0, .ref M.2.1), (1, .ref c), (2, .ref vd)], [], M11) _
  refine ml_blk 2 (S' := (14, [(0, .ref M.2.1), (1, .ref c), (2, .ref vd)], [.ref c, .ref M.2.1], M11)) rfl ?_
  refine ml_get (S' := (17, [(0, .ref M.2.1), (1, .ref c), (2, .ref vd)], [.int mj, .ref M.2.1], M11)) rfl g15 rfl ?_
  refine mm_put (l' := [.ref p, .int mj, .null]) rfl hW hM12 rfl rfl rfl (fun M16 hM17 f18 => ?_)
  have g19 := gf_fr (f18 c (ne_non hY0 hM12.2.2.1)) g14
  have g20 := gf_fr (f18 c (ne_non hY0 hM12.2.2.1)) g15
  show ml _ _ _ (20, [(0, .ref M.2.1), (1, .ref c), (2, .ref vd)], [], M16) _
  refine ml_blk 2 (S' := (22, [(0, .ref M.2.1), (1, .ref c), (2, .ref vd)], [.ref vd, .ref M.2.1], M16)) rfl ?_
  refine mm_put (l' := [.ref p, .int mj, .ref vd]) rfl hW hM17 rfl rfl rfl (fun M21 hM22 f23 => ?_)
  have g24 := gf_fr (f23 c (ne_non hY0 hM17.2.2.1)) g19
  have g25 := gf_fr (f23 c (ne_non hY0 hM17.2.2.1)) g20
  show ml _ _ _ (25, [(0, .ref M.2.1), (1, .ref c), (2, .ref vd)], [], M21) _
  exact ml_ret rfl (rfl) (⟨rfl, Y1, hM22, yle.rf⟩)
set_option maxHeartbeats 2000000 in
theorem tk_AttributeCheck {g : xe_G} {M M1 : mi_H} {Y Y1 : yT} {c9 s9 : Nat} {c b da n vd p : Nat}  (hW : WF g Y M) (hM : sm g Y M Y1 M1 [.null, .null, .null, .null, .int 0] 0 c9 s9) (hY0 : Y1.1 c = some (3, [b, da, n])) (hcp : mi_gf M1 c 3 1 = some (.ref p)) {d : Nat} (hd : 1 ≤ d) : mt (mT g) d 21 [.ref M.2.1, .ref c, .ref vd] M1 (fun v M' => v = none ∧ ∃ Y2, sm g Y M Y2 M' [.ref c, .ref b, .ref p, .ref vd, .int 0] 0 (c9 + 0) (s9 + 0) ∧ yle Y1 Y2) := by
  obtain ⟨d, rfl⟩ : ∃ e, d = e + 1 := ⟨d - 1, by omega⟩
  refine mt_in (b := mb_21 g) rfl rfl ?_
  show ml (mT g) d (mb_21 g).2 (0, [(0, .ref M.2.1), (1, .ref c), (2, .ref vd)], [], M1) _
  refine ml_st (S' := (1, [(0, .ref M.2.1), (1, .ref c), (2, .ref vd)], [.ref M.2.1], M1)) rfl rfl rfl ?_
  refine ml_st (S' := (4, [(0, .ref M.2.1), (1, .ref c), (2, .ref vd)], [], M1)) rfl rfl rfl ?_
  refine ml_blk 2 (S' := (6, [(0, .ref M.2.1), (1, .ref c), (2, .ref vd)], [.ref c, .ref M.2.1], M1)) rfl ?_
  refine mm_put (l' := [.ref c, .null, .null, .null, .int 0]) rfl hW hM rfl rfl rfl (fun M11 hM12 f13 => ?_)
  have g14 := gf_fr (f13 c (ne_non hY0 hM.2.2.1)) hcp
  show ml _ _ _ (9, [(0, .ref M.2.1), (1, .ref c), (2, .ref vd)], [], M11) _
  refine ml_blk 2 (S' := (11, [(0, .ref M.2.1), (1, .ref c), (2, .ref vd)], [.ref vd, .ref M.2.1], M11)) rfl ?_
  refine mm_put (l' := [.ref c, .null, .null, .ref vd, .int 0]) rfl hW hM12 rfl rfl rfl (fun M15 hM16 f17 => ?_)
  have g18 := gf_fr (f17 c (ne_non hY0 hM12.2.2.1)) g14
  show ml _ _ _ (14, [(0, .ref M.2.1), (1, .ref c), (2, .ref vd)], [], M15) _
  refine ml_blk 2 (S' := (16, [(0, .ref M.2.1), (1, .ref c), (2, .ref vd)], [.ref c, .ref M.2.1], M15)) rfl ?_
  refine tg_ref (S' := (19, [(0, .ref M.2.1), (1, .ref c), (2, .ref vd)], [.ref b, .ref M.2.1], M15)) rfl hM16.1.1 hY0 (by decide) rfl rfl ?_
  refine mm_put (l' := [.ref c, .ref b, .null, .ref vd, .int 0]) rfl hW hM16 rfl rfl rfl (fun M19 hM20 f21 => ?_)
  have g22 := gf_fr (f21 c (ne_non hY0 hM16.2.2.1)) g18
  show ml _ _ _ (22, [(0, .ref M.2.1), (1, .ref c), (2, .ref vd)], [], M19) _
  refine ml_blk 2 (S' := (24, [(0, .ref M.2.1), (1, .ref c), (2, .ref vd)], [.ref c, .ref M.2.1], M19)) rfl ?_
  refine ml_get (S' := (27, [(0, .ref M.2.1), (1, .ref c), (2, .ref vd)], [.ref p, .ref M.2.1], M19)) rfl g22 rfl ?_
  refine mm_put (l' := [.ref c, .ref b, .ref p, .ref vd, .int 0]) rfl hW hM20 rfl rfl rfl (fun M23 hM24 f25 => ?_)
  have g26 := gf_fr (f25 c (ne_non hY0 hM20.2.2.1)) g22
  show ml _ _ _ (30, [(0, .ref M.2.1), (1, .ref c), (2, .ref vd)], [], M23) _
  exact ml_ret rfl (rfl) (⟨rfl, Y1, hM24, yle.rf⟩)
set_option maxHeartbeats 2000000 in
theorem tk_ClassCheck {g : xe_G} {M M1 : mi_H} {Y Y1 : yT} {c9 s9 : Nat} {c b da n vd ac p : Nat}  (hW : WF g Y M) (hM : sm g Y M Y1 M1 [.null, .null, .null, .null, .null] 2 c9 s9) (hY0 : Y1.1 c = some (3, [b, da, n])) (hcp : mi_gf M1 c 3 1 = some (.ref p)) {d : Nat} (hd : 1 ≤ d) : mt (mT g) d 51 [.ref M.2.1, .ref c, .ref vd, .ref ac] M1 (fun v M' => v = none ∧ ∃ Y2, sm g Y M Y2 M' [.ref c, .ref b, .ref p, .ref vd, .ref ac] 2 (c9 + 0) (s9 + 0) ∧ yle Y1 Y2) := by
  obtain ⟨d, rfl⟩ : ∃ e, d = e + 1 := ⟨d - 1, by omega⟩
  refine mt_in (b := mb_51 g) rfl rfl ?_
  show ml (mT g) d (mb_51 g).2 (0, [(0, .ref M.2.1), (1, .ref c), (2, .ref vd), (3, .ref ac)], [], M1) _
  refine ml_st (S' := (1, [(0, .ref M.2.1), (1, .ref c), (2, .ref vd), (3, .ref ac)], [.ref M.2.1], M1)) rfl rfl rfl ?_
  refine ml_st (S' := (4, [(0, .ref M.2.1), (1, .ref c), (2, .ref vd), (3, .ref ac)], [], M1)) rfl rfl rfl ?_
  refine ml_blk 2 (S' := (6, [(0, .ref M.2.1), (1, .ref c), (2, .ref vd), (3, .ref ac)], [.ref c, .ref M.2.1], M1)) rfl ?_
  refine mm_put (l' := [.ref c, .null, .null, .null, .null]) rfl hW hM rfl rfl rfl (fun M11 hM12 f13 => ?_)
  have g14 := gf_fr (f13 c (ne_non hY0 hM.2.2.1)) hcp
  show ml _ _ _ (9, [(0, .ref M.2.1), (1, .ref c), (2, .ref vd), (3, .ref ac)], [], M11) _
  refine ml_blk 2 (S' := (11, [(0, .ref M.2.1), (1, .ref c), (2, .ref vd), (3, .ref ac)], [.ref vd, .ref M.2.1], M11)) rfl ?_
  refine mm_put (l' := [.ref c, .null, .null, .ref vd, .null]) rfl hW hM12 rfl rfl rfl (fun M15 hM16 f17 => ?_)
  have g18 := gf_fr (f17 c (ne_non hY0 hM12.2.2.1)) g14
  show ml _ _ _ (14, [(0, .ref M.2.1), (1, .ref c), (2, .ref vd), (3, .ref ac)], [], M15) _
  refine ml_blk 2 (S' := (16, [(0, .ref M.2.1), (1, .ref c), (2, .ref vd), (3, .ref ac)], [.ref ac, .ref M.2.1], M15)) rfl ?_
  refine mm_put (l' := [.ref c, .null, .null, .ref vd, .ref ac]) rfl hW hM16 rfl rfl rfl (fun M19 hM20 f21 => ?_)
  have g22 := gf_fr (f21 c (ne_non hY0 hM16.2.2.1)) g18
  show ml _ _ _ (19, [(0, .ref M.2.1), (1, .ref c), (2, .ref vd), (3, .ref ac)], [], M19) _
  refine ml_blk 2 (S' := (21, [(0, .ref M.2.1), (1, .ref c), (2, .ref vd), (3, .ref ac)], [.ref c, .ref M.2.1], M19)) rfl ?_
  refine tg_ref (S' := (24, [(0, .ref M.2.1), (1, .ref c), (2, .ref vd), (3, .ref ac)], [.ref b, .ref M.2.1], M19)) rfl hM20.1.1 hY0 (by decide) rfl rfl ?_
  refine mm_put (l' := [.ref c, .ref b, .null, .ref vd, .ref ac]) rfl hW hM20 rfl rfl rfl (fun M23 hM24 f25 => ?_)
  have g26 := gf_fr (f25 c (ne_non hY0 hM20.2.2.1)) g22
  show ml _ _ _ (27, [(0, .ref M.2.1), (1, .ref c), (2, .ref vd), (3, .ref ac)], [], M23) _
  refine ml_blk 2 (S' := (29, [(0, .ref M.2.1), (1, .ref c), (2, .ref vd), (3, .ref ac)], [.ref c, .ref M.2.1], M23)) rfl ?_
  refine ml_get (S' := (32, [(0, .ref M.2.1), (1, .ref c), (2, .ref vd), (3, .ref ac)], [.ref p, .ref M.2.1], M23)) rfl g26 rfl ?_
  refine mm_put (l' := [.ref c, .ref b, .ref p, .ref vd, .ref ac]) rfl hW hM24 rfl rfl rfl (fun M27 hM28 f29 => ?_)
  have g30 := gf_fr (f29 c (ne_non hY0 hM24.2.2.1)) g26
  show ml _ _ _ (35, [(0, .ref M.2.1), (1, .ref c), (2, .ref vd), (3, .ref ac)], [], M27) _
  exact ml_ret rfl (rfl) (⟨rfl, Y1, hM28, yle.rf⟩)
theorem mx0 {x : Int32} (h : 0 ≤ x.toInt) : (if (0 : Int32) < x then x else 0) = x := by
  split
  · rfl
  · rename_i h1
    have h2 := i_nlt h1
    have z : (0 : Int32).toInt = 0 := rfl
    apply Int32.toInt_inj.mp
    omega
theorem i_div3 {a : Int32} (h : 0 ≤ a.toInt) : (a / 3).toInt = a.toInt / 3 := by
  have f : (3 : Int32).toInt = 3 := rfl
  rw [Int32.toInt_div, f, Int.tdiv_eq_ediv_of_nonneg h]
  apply Int.bmod_eq_of_le <;> have := Int32.toInt_lt a <;> omega
theorem held_ok {x y : Int32} (h0 : 0 ≤ y.toInt) (h1 : y.toInt ≤ 100000000) : 0 ≤ (if 0 < (if (y / 3 + 1) < x then (y / 3 + 1) else x) then (if (y / 3 + 1) < x then (y / 3 + 1) else x) else 0).toInt ∧ (if 0 < (if (y / 3 + 1) < x then (y / 3 + 1) else x) then (if (y / 3 + 1) < x then (y / 3 + 1) else x) else 0).toInt ≤ y.toInt / 3 + 1 := by
  have e1 : (1 : Int32).toInt = 1 := rfl
  have z : (0 : Int32).toInt = 0 := rfl
  have e : (y / 3 + 1).toInt = y.toInt / 3 + 1 := by
    rw [i_add (by rw [i_div3 h0, e1]; omega) (by rw [i_div3 h0, e1]; omega), i_div3 h0, e1]
  have hu : (if (y / 3 + 1) < x then (y / 3 + 1) else x).toInt ≤ y.toInt / 3 + 1 := by
    split
    · omega
    · rename_i h2
      have := i_nlt h2
      omega
  generalize (if (y / 3 + 1) < x then (y / 3 + 1) else x) = u at *
  split
  · rename_i h2
    have := i_lt h2
    omega
  · omega
theorem okY_pool {Y1 : yT} {M1 : mi_H} {a nh m t tp f s sh ch : Nat} {x1 : Int32} (hn : nh < 1073741824) (hm : m < 1073741824) (hx : x1.toInt ≤ 65535) (hM : M1.1 a = some (ob 7 [.int x1, .ref t, .ref tp, .ref f, .ref s, .ref sh, .ref ch, .int 0])) (hle : yle Y1 (yadd Y1 a 7 [nh, m, t, tp, f, s, sh, ch])) (k1 : Y1.1 t = some (31, [nh, a])) (k2 : Y1.1 tp = some (32, [nh, a])) (k3 : Y1.1 f = some (33, [nh, a])) (k4 : Y1.1 s = some (34, [nh, a])) (k5 : Y1.1 sh = some (35, [nh, a])) (k6 : Y1.1 ch = some (36, [m, a])) (m1 : M1.1 t = some (ar .int nh (fun _ => 0))) (m3 : M1.1 f = some (ar .int nh (fun _ => 0))) (m4 : M1.1 s = some (ar .int nh (fun _ => 0))) : okY (yadd Y1 a 7 [nh, m, t, tp, f, s, sh, ch]) M1 a 7 [nh, m, t, tp, f, s, sh, ch] := by
  refine okY_new (by decide) hM (by simp [sch]) ⟨⟨_, rfl⟩, rfl, rfl, rfl, rfl, rfl, rfl, ⟨_, rfl⟩, trivial⟩ ⟨(hle _ _ k1).1, (hle _ _ k2).1, (hle _ _ k3).1, (hle _ _ k4).1, (hle _ _ k5).1, (hle _ _ k6).1⟩ ⟨hn, hm, 0, x1, fun _ => 0, fun _ => 0, fun _ => 0, rfl, rfl, hx, m1, m3, m4, by decide, by show (0 : Int32).toInt ≤ (m : Int); have z : (0 : Int32).toInt = 0 := rfl; omega, fun k _ h => ?_⟩
  exact absurd (show (0 : Int32) = 1 from h) (by decide)

set_option maxHeartbeats 2000000 in
theorem tk_Pool {g : xe_G} {M M1 : mi_H} {Y Y1 : yT} {c9 s9 : Nat} {x1 x2 : Int32}  (hW : WF g Y M) (hM : sm g Y M Y1 M1 [.int 0, .null, .null, .null, .null, .null, .null, .int 0] 7 c9 s9) (hx1 : x1.toInt ≤ 65535) (h20 : 0 ≤ x2.toInt) (h21 : x2.toInt ≤ 100000000) {d : Nat} (hd : 1 ≤ d) : mt (mT g) d 110 [.ref M.2.1, .int x1, .int x2] M1 (fun v M' => v = none ∧ ∃ Y3 nh t tp f s sh ch, sn g Y M Y3 M' (c9 + 6) (s9 + 5 * nh + x2.toNatClampNeg) ∧ yle Y1 Y3 ∧ Y3.1 M.2.1 = some (7, [nh, x2.toNatClampNeg, t, tp, f, s, sh, ch]) ∧ (∀ k, TZ M' f s k) ∧ (nh : Int) ≤ x2.toInt / 3 + 1) := by
  obtain ⟨d, rfl⟩ : ∃ e, d = e + 1 := ⟨d - 1, by omega⟩
  refine mt_in (b := mb_110 g) rfl rfl ?_
  show ml (mT g) d (mb_110 g).2 (0, [(0, .ref M.2.1), (1, .int x1), (2, .int x2)], [], M1) _
  refine ml_st (S' := (1, [(0, .ref M.2.1), (1, .int x1), (2, .int x2)], [.ref M.2.1], M1)) rfl rfl rfl ?_
  refine ml_st (S' := (4, [(0, .ref M.2.1), (1, .int x1), (2, .int x2)], [], M1)) rfl rfl rfl ?_
  refine ml_blk 2 (S' := (6, [(0, .ref M.2.1), (1, .int x1), (2, .int x2)], [.int x1, .ref M.2.1], M1)) rfl ?_
  refine mm_put (l' := [.int x1, .null, .null, .null, .null, .null, .null, .int 0]) rfl hW hM rfl rfl rfl (fun M11 hM12 f13 => ?_)
  show ml _ _ _ (9, [(0, .ref M.2.1), (1, .int x1), (2, .int x2)], [], M11) _
  refine ml_blk 3 (S' := (12, [(0, .ref M.2.1), (1, .int x1), (2, .int x2)], [.int x2, .int x1, .int 0], M11)) rfl ?_
  refine ml_st (S' := (13, [(0, .ref M.2.1), (1, .int x1), (2, .int x2)], [.int 3, .int x2, .int x1, .int 0], M11)) rfl rfl rfl ?_
  refine ml_blk 3 (S' := (16, [(0, .ref M.2.1), (1, .int x1), (2, .int x2)], [.int ((x2 / 3) + 1), .int x1, .int 0], M11)) rfl ?_
  refine ml_blk 2 (S' := (22, [(0, .ref M.2.1), (1, .int x1), (2, .int x2)], [.int (if 0 < (if ((x2 / 3) + 1) < x1 then ((x2 / 3) + 1) else x1) then (if ((x2 / 3) + 1) < x1 then ((x2 / 3) + 1) else x1) else 0)], M11)) rfl ?_
  have hh := held_ok (x := x1) h20 h21
  generalize (if 0 < (if (x2 / 3 + 1) < x1 then (x2 / 3 + 1) else x1) then (if (x2 / 3 + 1) < x1 then (x2 / 3 + 1) else x1) else 0) = hd9 at hh ⊢
  have hh2 : (hd9.toNatClampNeg : Int) = hd9.toInt := by show (hd9.toInt.toNat : Int) = _; omega
  refine ml_st (S' := (23, [(3, .int hd9), (0, .ref M.2.1), (1, .int x1), (2, .int x2)], [], M11)) rfl rfl rfl ?_
  refine ml_blk 2 (S' := (25, [(3, .int hd9), (0, .ref M.2.1), (1, .int x1), (2, .int x2)], [.int hd9, .ref M.2.1], M11)) rfl ?_
  have hn9 : hd9.toNatClampNeg < 1073741824 := by omega
  have hm9 : x2.toNatClampNeg < 1073741824 := by have : (x2.toNatClampNeg : Int) = x2.toInt := (by show (x2.toInt.toNat : Int) = _; omega); omega
  refine ml_newa (S' := (27, [(3, .int hd9), (0, .ref M.2.1), (1, .int x1), (2, .int x2)], [.ref M11.2.1, .ref M.2.1], (mk1 M11 (ar .int hd9.toNatClampNeg (fun _ => 0)) hd9.toNatClampNeg))) rfl hh.1 (by omega) rfl ?_
  refine mm_row (kr := 31) (pr := [hd9.toNatClampNeg, M.2.1]) hM12.1.1 (okY_row rfl hn9 (by decide) (fun h => absurd h (by decide)) (fun h => absurd h (by decide))) (fun Y14 M15 b16 _ h17 h18 h19 f20 => ?_)
  have hM21 := hM12.tr h17
  show ml _ _ _ (27, [(3, .int hd9), (0, .ref M.2.1), (1, .int x1), (2, .int x2)], [.ref b16, .ref M.2.1], M15) _
  refine mm_put (l' := [.int x1, .ref b16, .null, .null, .null, .null, .null, .int 0]) rfl hW hM21 rfl rfl rfl (fun M22 hM23 f24 => ?_)
  have h25 := (f24 _ (ne_non h18 hM23.2.2.1)).trans h19
  show ml _ _ _ (30, [(3, .int hd9), (0, .ref M.2.1), (1, .int x1), (2, .int x2)], [], M22) _
  refine ml_blk 2 (S' := (32, [(3, .int hd9), (0, .ref M.2.1), (1, .int x1), (2, .int x2)], [.int hd9, .ref M.2.1], M22)) rfl ?_
  refine ml_newa (S' := (34, [(3, .int hd9), (0, .ref M.2.1), (1, .int x1), (2, .int x2)], [.ref M22.2.1, .ref M.2.1], (mk1 M22 (ar .int hd9.toNatClampNeg (fun _ => 0)) hd9.toNatClampNeg))) rfl hh.1 (by omega) rfl ?_
  refine mm_row (kr := 32) (pr := [hd9.toNatClampNeg, M.2.1]) hM23.1.1 (okY_row rfl hn9 (by decide) (fun h => absurd h (by decide)) (fun h => absurd h (by decide))) (fun Y26 M27 b28 _ h29 h30 h31 f32 => ?_)
  have hM33 := hM23.tr h29
  have h34 := (h29.2.1 _ _ h18).1
  have h35 := (f32 _ (hM23.1.1.2.1 _ _ h18)).trans h25
  show ml _ _ _ (34, [(3, .int hd9), (0, .ref M.2.1), (1, .int x1), (2, .int x2)], [.ref b28, .ref M.2.1], M27) _
  refine mm_put (l' := [.int x1, .ref b16, .ref b28, .null, .null, .null, .null, .int 0]) rfl hW hM33 rfl rfl rfl (fun M36 hM37 f38 => ?_)
  have h39 := (f38 _ (ne_non h34 hM37.2.2.1)).trans h35
  have h40 := (f38 _ (ne_non h30 hM37.2.2.1)).trans h31
  show ml _ _ _ (37, [(3, .int hd9), (0, .ref M.2.1), (1, .int x1), (2, .int x2)], [], M36) _
  refine ml_blk 2 (S' := (39, [(3, .int hd9), (0, .ref M.2.1), (1, .int x1), (2, .int x2)], [.int hd9, .ref M.2.1], M36)) rfl ?_
  refine ml_newa (S' := (41, [(3, .int hd9), (0, .ref M.2.1), (1, .int x1), (2, .int x2)], [.ref M36.2.1, .ref M.2.1], (mk1 M36 (ar .int hd9.toNatClampNeg (fun _ => 0)) hd9.toNatClampNeg))) rfl hh.1 (by omega) rfl ?_
  refine mm_row (kr := 33) (pr := [hd9.toNatClampNeg, M.2.1]) hM37.1.1 (okY_row rfl hn9 (by decide) (fun h => absurd h (by decide)) (fun h => absurd h (by decide))) (fun Y41 M42 b43 _ h44 h45 h46 f47 => ?_)
  have hM48 := hM37.tr h44
  have h49 := (h44.2.1 _ _ h34).1
  have h50 := (f47 _ (hM37.1.1.2.1 _ _ h34)).trans h39
  have h51 := (h44.2.1 _ _ h30).1
  have h52 := (f47 _ (hM37.1.1.2.1 _ _ h30)).trans h40
  show ml _ _ _ (41, [(3, .int hd9), (0, .ref M.2.1), (1, .int x1), (2, .int x2)], [.ref b43, .ref M.2.1], M42) _
  refine mm_put (l' := [.int x1, .ref b16, .ref b28, .ref b43, .null, .null, .null, .int 0]) rfl hW hM48 rfl rfl rfl (fun M53 hM54 f55 => ?_)
  have h56 := (f55 _ (ne_non h49 hM54.2.2.1)).trans h50
  have h57 := (f55 _ (ne_non h51 hM54.2.2.1)).trans h52
  have h58 := (f55 _ (ne_non h45 hM54.2.2.1)).trans h46
  show ml _ _ _ (44, [(3, .int hd9), (0, .ref M.2.1), (1, .int x1), (2, .int x2)], [], M53) _
  refine ml_blk 2 (S' := (46, [(3, .int hd9), (0, .ref M.2.1), (1, .int x1), (2, .int x2)], [.int hd9, .ref M.2.1], M53)) rfl ?_
  refine ml_newa (S' := (48, [(3, .int hd9), (0, .ref M.2.1), (1, .int x1), (2, .int x2)], [.ref M53.2.1, .ref M.2.1], (mk1 M53 (ar .int hd9.toNatClampNeg (fun _ => 0)) hd9.toNatClampNeg))) rfl hh.1 (by omega) rfl ?_
  refine mm_row (kr := 34) (pr := [hd9.toNatClampNeg, M.2.1]) hM54.1.1 (okY_row rfl hn9 (by decide) (fun h => absurd h (by decide)) (fun h => absurd h (by decide))) (fun Y59 M60 b61 _ h62 h63 h64 f65 => ?_)
  have hM66 := hM54.tr h62
  have h67 := (h62.2.1 _ _ h49).1
  have h68 := (f65 _ (hM54.1.1.2.1 _ _ h49)).trans h56
  have h69 := (h62.2.1 _ _ h51).1
  have h70 := (f65 _ (hM54.1.1.2.1 _ _ h51)).trans h57
  have h71 := (h62.2.1 _ _ h45).1
  have h72 := (f65 _ (hM54.1.1.2.1 _ _ h45)).trans h58
  show ml _ _ _ (48, [(3, .int hd9), (0, .ref M.2.1), (1, .int x1), (2, .int x2)], [.ref b61, .ref M.2.1], M60) _
  refine mm_put (l' := [.int x1, .ref b16, .ref b28, .ref b43, .ref b61, .null, .null, .int 0]) rfl hW hM66 rfl rfl rfl (fun M73 hM74 f75 => ?_)
  have h76 := (f75 _ (ne_non h67 hM74.2.2.1)).trans h68
  have h77 := (f75 _ (ne_non h69 hM74.2.2.1)).trans h70
  have h78 := (f75 _ (ne_non h71 hM74.2.2.1)).trans h72
  have h79 := (f75 _ (ne_non h63 hM74.2.2.1)).trans h64
  show ml _ _ _ (51, [(3, .int hd9), (0, .ref M.2.1), (1, .int x1), (2, .int x2)], [], M73) _
  refine ml_blk 2 (S' := (53, [(3, .int hd9), (0, .ref M.2.1), (1, .int x1), (2, .int x2)], [.int hd9, .ref M.2.1], M73)) rfl ?_
  refine ml_newa (S' := (55, [(3, .int hd9), (0, .ref M.2.1), (1, .int x1), (2, .int x2)], [.ref M73.2.1, .ref M.2.1], (mk1 M73 (ar .int hd9.toNatClampNeg (fun _ => 0)) hd9.toNatClampNeg))) rfl hh.1 (by omega) rfl ?_
  refine mm_row (kr := 35) (pr := [hd9.toNatClampNeg, M.2.1]) hM74.1.1 (okY_row rfl hn9 (by decide) (fun h => absurd h (by decide)) (fun h => absurd h (by decide))) (fun Y80 M81 b82 _ h83 h84 h85 f86 => ?_)
  have hM87 := hM74.tr h83
  have h88 := (h83.2.1 _ _ h67).1
  have h89 := (f86 _ (hM74.1.1.2.1 _ _ h67)).trans h76
  have h90 := (h83.2.1 _ _ h69).1
  have h91 := (f86 _ (hM74.1.1.2.1 _ _ h69)).trans h77
  have h92 := (h83.2.1 _ _ h71).1
  have h93 := (f86 _ (hM74.1.1.2.1 _ _ h71)).trans h78
  have h94 := (h83.2.1 _ _ h63).1
  have h95 := (f86 _ (hM74.1.1.2.1 _ _ h63)).trans h79
  show ml _ _ _ (55, [(3, .int hd9), (0, .ref M.2.1), (1, .int x1), (2, .int x2)], [.ref b82, .ref M.2.1], M81) _
  refine mm_put (l' := [.int x1, .ref b16, .ref b28, .ref b43, .ref b61, .ref b82, .null, .int 0]) rfl hW hM87 rfl rfl rfl (fun M96 hM97 f98 => ?_)
  have h99 := (f98 _ (ne_non h88 hM97.2.2.1)).trans h89
  have h100 := (f98 _ (ne_non h90 hM97.2.2.1)).trans h91
  have h101 := (f98 _ (ne_non h92 hM97.2.2.1)).trans h93
  have h102 := (f98 _ (ne_non h94 hM97.2.2.1)).trans h95
  have h103 := (f98 _ (ne_non h84 hM97.2.2.1)).trans h85
  show ml _ _ _ (58, [(3, .int hd9), (0, .ref M.2.1), (1, .int x1), (2, .int x2)], [], M96) _
  refine ml_blk 3 (S' := (61, [(3, .int hd9), (0, .ref M.2.1), (1, .int x1), (2, .int x2)], [.int x2, .int 0, .ref M.2.1], M96)) rfl ?_
  refine ml_st (S' := (64, [(3, .int hd9), (0, .ref M.2.1), (1, .int x1), (2, .int x2)], [.int (if 0 < x2 then x2 else 0), .ref M.2.1], M96)) rfl rfl rfl ?_
  rw [mx0 h20]
  refine ml_newa (S' := (66, [(3, .int hd9), (0, .ref M.2.1), (1, .int x1), (2, .int x2)], [.ref M96.2.1, .ref M.2.1], (mk1 M96 (ar .char x2.toNatClampNeg (fun _ => 0)) x2.toNatClampNeg))) rfl h20 (by omega) rfl ?_
  refine mm_row (kr := 36) (pr := [x2.toNatClampNeg, M.2.1]) hM97.1.1 (okY_row rfl hm9 (by decide) (fun h => absurd h (by decide)) (fun h => (rfl : narrow .char (.int 0) = .int 0))) (fun Y104 M105 b106 _ h107 h108 h109 f110 => ?_)
  have hM111 := hM97.tr h107
  have h112 := (h107.2.1 _ _ h88).1
  have h113 := (f110 _ (hM97.1.1.2.1 _ _ h88)).trans h99
  have h114 := (h107.2.1 _ _ h90).1
  have h115 := (f110 _ (hM97.1.1.2.1 _ _ h90)).trans h100
  have h116 := (h107.2.1 _ _ h92).1
  have h117 := (f110 _ (hM97.1.1.2.1 _ _ h92)).trans h101
  have h118 := (h107.2.1 _ _ h94).1
  have h119 := (f110 _ (hM97.1.1.2.1 _ _ h94)).trans h102
  have h120 := (h107.2.1 _ _ h84).1
  have h121 := (f110 _ (hM97.1.1.2.1 _ _ h84)).trans h103
  show ml _ _ _ (66, [(3, .int hd9), (0, .ref M.2.1), (1, .int x1), (2, .int x2)], [.ref b106, .ref M.2.1], M105) _
  refine mm_put (l' := [.int x1, .ref b16, .ref b28, .ref b43, .ref b61, .ref b82, .ref b106, .int 0]) rfl hW hM111 rfl rfl rfl (fun M122 hM123 f124 => ?_)
  have h125 := (f124 _ (ne_non h112 hM123.2.2.1)).trans h113
  have h126 := (f124 _ (ne_non h114 hM123.2.2.1)).trans h115
  have h127 := (f124 _ (ne_non h116 hM123.2.2.1)).trans h117
  have h128 := (f124 _ (ne_non h118 hM123.2.2.1)).trans h119
  have h129 := (f124 _ (ne_non h120 hM123.2.2.1)).trans h121
  have h130 := (f124 _ (ne_non h108 hM123.2.2.1)).trans h109
  show ml _ _ _ (69, [(3, .int hd9), (0, .ref M.2.1), (1, .int x1), (2, .int x2)], [], M122) _
  have ho := okY_pool hn9 hm9 hx1 hM123.2.1 (yadd_le hM123.2.2.1) h112 h114 h116 h118 h120 h108 h125 h127 h128
  have hd := hM123.done ho
  exact ml_ret rfl (rfl) (⟨rfl, _, hd9.toNatClampNeg, b16, b28, b43, b61, b82, b106, hd.le (by omega) (by omega), ((((((h17.2.1).tr h29.2.1).tr h44.2.1).tr h62.2.1).tr h83.2.1).tr h107.2.1).tr (yadd_le hM123.2.2.1), yadd_at, fun k => ⟨_, _, _, h127, h128, fun _ _ => ⟨rfl, rfl⟩⟩, by omega⟩)
set_option maxHeartbeats 2000000 in
theorem tk_ClassFile {g : xe_G} {M M1 : mi_H} {Y Y1 : yT} {c9 s9 : Nat} {b da n : Nat}  (hW : WF g Y M) (hM : sm g Y M Y1 M1 [.null, .null, .int 0, .int 0, .int 0, .int 0, .null, .null, .int 0, .int 0, .int 0, .int 0, .int 0, .int 0, .int 0, .int 0, .int 0] 3 c9 s9) (hY0 : Y1.1 b = some (1, [da, n])) {d : Nat} (hd : 2 ≤ d) : mt (mT g) d 68 [.ref M.2.1, .ref b] M1 (fun v M' => v = none ∧ ∃ Y3, sn g Y M Y3 M' (c9 + 9) (s9 + 13) ∧ yle Y1 Y3 ∧ Y3.1 M.2.1 = some (3, [b, da, n])) := by
  obtain ⟨d, rfl⟩ : ∃ e, d = e + 1 := ⟨d - 1, by omega⟩
  refine mt_in (b := mb_68 g) rfl rfl ?_
  show ml (mT g) d (mb_68 g).2 (0, [(0, .ref M.2.1), (1, .ref b)], [], M1) _
  refine ml_st (S' := (1, [(0, .ref M.2.1), (1, .ref b)], [.ref M.2.1], M1)) rfl rfl rfl ?_
  refine ml_st (S' := (4, [(0, .ref M.2.1), (1, .ref b)], [], M1)) rfl rfl rfl ?_
  refine ml_blk 2 (S' := (6, [(0, .ref M.2.1), (1, .ref b)], [.ref b, .ref M.2.1], M1)) rfl ?_
  refine mm_put (l' := [.ref b, .null, .int 0, .int 0, .int 0, .int 0, .null, .null, .int 0, .int 0, .int 0, .int 0, .int 0, .int 0, .int 0, .int 0, .int 0]) rfl hW hM rfl rfl rfl (fun M11 hM12 f13 => ?_)
  show ml _ _ _ (9, [(0, .ref M.2.1), (1, .ref b)], [], M11) _
  refine ml_st (S' := (10, [(0, .ref M.2.1), (1, .ref b)], [.ref M.2.1], M11)) rfl rfl rfl ?_
  have hW_hM15 := hM12.1.1
  refine mm_new (k := 7) (N := 8) (ds := [.int 0, .null, .null, .null, .null, .null, .null, .int 0]) rfl hW_hM15 (fun M14 hM15 => ?_)
  show ml _ _ _ (13, [(0, .ref M.2.1), (1, .ref b)], [.ref M11.2.1, .ref M.2.1], M14) _
  refine ml_blk 3 (S' := (16, [(0, .ref M.2.1), (1, .ref b)], [.int 0, .int 0, .ref M11.2.1, .ref M11.2.1, .ref M.2.1], M14)) rfl ?_
  refine ml_call (a := [.ref M11.2.1, .int 0, .int 0]) (rest := [.ref M11.2.1, .ref M.2.1]) rfl (okc_v rfl rfl rfl hM15.2.1) rfl rfl (tk_Pool hW_hM15 hM15 (by decide) (by decide) (by decide) (by omega)) (fun v17 M18 h19 => ?_)
  obtain ⟨rfl, Y20, nh21, t22, tp23, f24, s25, sh26, ch27, h28, h29, h30, h31, h32⟩ := h19
  have hM33 := hM12.tr h28
  have h34 := (h29 _ _ hY0).1
  show ml _ _ _ (19, [(0, .ref M.2.1), (1, .ref b)], [.ref M11.2.1, .ref M.2.1], M18) _
  refine mm_put (l' := [.ref b, .ref M11.2.1, .int 0, .int 0, .int 0, .int 0, .null, .null, .int 0, .int 0, .int 0, .int 0, .int 0, .int 0, .int 0, .int 0, .int 0]) rfl hW hM33 rfl rfl rfl (fun M35 hM36 f37 => ?_)
  show ml _ _ _ (22, [(0, .ref M.2.1), (1, .ref b)], [], M35) _
  refine ml_blk 2 (S' := (24, [(0, .ref M.2.1), (1, .ref b)], [.int 0, .ref M.2.1], M35)) rfl ?_
  refine ml_anew (S' := (27, [(0, .ref M.2.1), (1, .ref b)], [.ref M35.2.1, .ref M.2.1], (mk1 M35 (.inl (.object "ClassGate$Member", (Int32.toNatClampNeg 0), fun _ => some .null)) (Int32.toNatClampNeg 0)))) rfl (by decide) (by decide) rfl ?_
  refine mm_row (kr := 23) (pr := [(Int32.toNatClampNeg 0), da, n]) hM36.1.1 (okY_mem (⟨by decide, Nat.zero_le _⟩)) (fun Y38 M39 b40 _ h41 h42 h43 f44 => ?_)
  have hM45 := hM36.tr h41
  have h46 := (h41.2.1 _ _ h34).1
  have h47 := (h41.2.1 _ _ h30).1
  show ml _ _ _ (27, [(0, .ref M.2.1), (1, .ref b)], [.ref b40, .ref M.2.1], M39) _
  refine mm_put (l' := [.ref b, .ref M11.2.1, .int 0, .int 0, .int 0, .int 0, .ref b40, .null, .int 0, .int 0, .int 0, .int 0, .int 0, .int 0, .int 0, .int 0, .int 0]) rfl hW hM45 rfl rfl rfl (fun M48 hM49 f50 => ?_)
  show ml _ _ _ (30, [(0, .ref M.2.1), (1, .ref b)], [], M48) _
  refine ml_blk 2 (S' := (32, [(0, .ref M.2.1), (1, .ref b)], [.int 0, .ref M.2.1], M48)) rfl ?_
  refine ml_anew (S' := (35, [(0, .ref M.2.1), (1, .ref b)], [.ref M48.2.1, .ref M.2.1], (mk1 M48 (.inl (.object "ClassGate$Member", (Int32.toNatClampNeg 0), fun _ => some .null)) (Int32.toNatClampNeg 0)))) rfl (by decide) (by decide) rfl ?_
  refine mm_row (kr := 23) (pr := [(Int32.toNatClampNeg 0), da, n]) hM49.1.1 (okY_mem (⟨by decide, Nat.zero_le _⟩)) (fun Y51 M52 b53 _ h54 h55 h56 f57 => ?_)
  have hM58 := hM49.tr h54
  have h59 := (h54.2.1 _ _ h46).1
  have h60 := (h54.2.1 _ _ h47).1
  have h61 := (h54.2.1 _ _ h42).1
  show ml _ _ _ (35, [(0, .ref M.2.1), (1, .ref b)], [.ref b53, .ref M.2.1], M52) _
  refine mm_put (l' := [.ref b, .ref M11.2.1, .int 0, .int 0, .int 0, .int 0, .ref b40, .ref b53, .int 0, .int 0, .int 0, .int 0, .int 0, .int 0, .int 0, .int 0, .int 0]) rfl hW hM58 rfl rfl rfl (fun M62 hM63 f64 => ?_)
  show ml _ _ _ (38, [(0, .ref M.2.1), (1, .ref b)], [], M62) _
  refine ml_blk 2 (S' := (40, [(0, .ref M.2.1), (1, .ref b)], [.int (-1), .ref M.2.1], M62)) rfl ?_
  refine mm_put (l' := [.ref b, .ref M11.2.1, .int 0, .int 0, .int 0, .int 0, .ref b40, .ref b53, .int 0, .int 0, .int 0, .int 0, .int 0, .int 0, .int 0, .int 0, .int (-1)]) rfl hW hM63 rfl rfl rfl (fun M65 hM66 f67 => ?_)
  show ml _ _ _ (43, [(0, .ref M.2.1), (1, .ref b)], [], M65) _
  have ho : okY (yadd Y51 M.2.1 3 [b, da, n]) M65 M.2.1 3 [b, da, n] := okY_new (by decide) hM66.2.1 (by simp [sch]) ⟨rfl, ⟨_, rfl, _, ((yadd_le hM66.2.2.1) _ _ h60).1⟩, ⟨_, rfl⟩, ⟨_, rfl⟩, ⟨_, rfl⟩, ⟨_, rfl⟩, ⟨_, rfl, _, ((yadd_le hM66.2.2.1) _ _ h61).1⟩, ⟨_, rfl, _, ((yadd_le hM66.2.2.1) _ _ h55).1⟩, ⟨_, rfl⟩, ⟨_, rfl⟩, ⟨_, rfl⟩, ⟨_, rfl⟩, ⟨_, rfl⟩, ⟨_, rfl⟩, ⟨_, rfl⟩, ⟨_, rfl⟩, ⟨_, rfl⟩, trivial⟩ (((yadd_le hM66.2.2.1) _ _ h59).1) trivial
  have hd9 := hM66.done ho
  have e0 : (0 : Int32).toInt = 0 := rfl
  have e1 : Int32.toNatClampNeg 0 = 0 := rfl
  exact ml_ret rfl (rfl) (⟨rfl, _, hd9.le (by omega) (by omega), (((h28.2.1).tr h41.2.1).tr h54.2.1).tr (yadd_le hM66.2.2.1), yadd_at⟩)
set_option maxHeartbeats 2000000 in
theorem tk_Code {g : xe_G} {M M1 : mi_H} {Y Y1 : yT} {c9 s9 : Nat} {c b da n : Nat} {x2 : Int32}  (hW : WF g Y M) (hM : sm g Y M Y1 M1 [.int 0, .int 0, .int 0, .int 0, .int 0, .null, .int 0, .null, .int 0, .null, .null] 4 c9 s9) (hY0 : Y1.1 c = some (3, [b, da, n])) (hY1 : Y1.1 b = some (1, [da, n])) (hl0 : 0 ≤ (sp_u4 n (Y1.2 da) (x2 + 4)).toInt) (hl1 : (sp_u4 n (Y1.2 da) (x2 + 4)).toInt ≤ n) {d : Nat} (hd : 2 ≤ d) : mt (mT g) d 74 [.ref M.2.1, .ref c, .int x2] M1 (fun v M' => v = none ∧ ∃ Y3 p o, sn g Y M Y3 M' (c9 + 1) (s9 + 12) ∧ yle Y1 Y3 ∧ Y3.1 M.2.1 = some (4, [p, o, n])) := by
  obtain ⟨d, rfl⟩ : ∃ e, d = e + 1 := ⟨d - 1, by omega⟩
  refine mt_in (b := mb_74 g) rfl rfl ?_
  show ml (mT g) d (mb_74 g).2 (0, [(0, .ref M.2.1), (1, .ref c), (2, .int x2)], [], M1) _
  have hn := hM.1.1.bn hY1
  have hn2 := hM.1.1.bm hY1
  refine ml_st (S' := (1, [(0, .ref M.2.1), (1, .ref c), (2, .int x2)], [.ref M.2.1], M1)) rfl rfl rfl ?_
  refine ml_st (S' := (4, [(0, .ref M.2.1), (1, .ref c), (2, .int x2)], [], M1)) rfl rfl rfl ?_
  refine ml_st (S' := (5, [(0, .ref M.2.1), (1, .ref c), (2, .int x2)], [.ref c], M1)) rfl rfl rfl ?_
  refine tg_ref (S' := (8, [(0, .ref M.2.1), (1, .ref c), (2, .int x2)], [.ref b], M1)) rfl hM.1.1 hY0 (by decide) rfl rfl ?_
  refine ml_st (S' := (9, [(3, .ref b), (0, .ref M.2.1), (1, .ref c), (2, .int x2)], [], M1)) rfl rfl rfl ?_
  refine ml_blk 3 (S' := (12, [(3, .ref b), (0, .ref M.2.1), (1, .ref c), (2, .int x2)], [.int x2, .ref b, .ref M.2.1], M1)) rfl ?_
  refine ml_call (a := [.ref b, .int x2]) (rest := [.ref M.2.1]) rfl (okc_t rfl rfl rfl hM.1.1 hY1 (by decide)) rfl rfl (ct_u2 (hM.1.1.bytes hY1).1 (by omega)) (fun v11 M12 h13 => ?_)
  obtain ⟨rfl, h13⟩ := h13
  rw [h13]
  show ml _ _ _ (15, [(3, .ref b), (0, .ref M.2.1), (1, .ref c), (2, .int x2)], [.int (sp_u2 n (Y1.2 da) x2), .ref M.2.1], M1) _
  refine mm_put (l' := [.int (sp_u2 n (Y1.2 da) x2), .int 0, .int 0, .int 0, .int 0, .null, .int 0, .null, .int 0, .null, .null]) rfl hW hM rfl rfl rfl (fun M14 hM15 f16 => ?_)
  show ml _ _ _ (18, [(3, .ref b), (0, .ref M.2.1), (1, .ref c), (2, .int x2)], [], M14) _
  refine ml_blk 3 (S' := (21, [(3, .ref b), (0, .ref M.2.1), (1, .ref c), (2, .int x2)], [.int x2, .ref b, .ref M.2.1], M14)) rfl ?_
  refine ml_blk 2 (S' := (23, [(3, .ref b), (0, .ref M.2.1), (1, .ref c), (2, .int x2)], [.int (x2 + 2), .ref b, .ref M.2.1], M14)) rfl ?_
  refine ml_call (a := [.ref b, .int (x2 + 2)]) (rest := [.ref M.2.1]) rfl (okc_t rfl rfl rfl hM15.1.1 hY1 (by decide)) rfl rfl (ct_u2 (hM15.1.1.bytes hY1).1 (by omega)) (fun v17 M18 h19 => ?_)
  obtain ⟨rfl, h19⟩ := h19
  rw [h19]
  show ml _ _ _ (26, [(3, .ref b), (0, .ref M.2.1), (1, .ref c), (2, .int x2)], [.int (sp_u2 n (Y1.2 da) (x2 + 2)), .ref M.2.1], M14) _
  refine mm_put (l' := [.int (sp_u2 n (Y1.2 da) x2), .int (sp_u2 n (Y1.2 da) (x2 + 2)), .int 0, .int 0, .int 0, .null, .int 0, .null, .int 0, .null, .null]) rfl hW hM15 rfl rfl rfl (fun M20 hM21 f22 => ?_)
  show ml _ _ _ (29, [(3, .ref b), (0, .ref M.2.1), (1, .ref c), (2, .int x2)], [], M20) _
  refine ml_blk 3 (S' := (32, [(3, .ref b), (0, .ref M.2.1), (1, .ref c), (2, .int x2)], [.int x2, .ref b, .ref M.2.1], M20)) rfl ?_
  refine ml_blk 2 (S' := (34, [(3, .ref b), (0, .ref M.2.1), (1, .ref c), (2, .int x2)], [.int (x2 + 4), .ref b, .ref M.2.1], M20)) rfl ?_
  refine ml_call (a := [.ref b, .int (x2 + 4)]) (rest := [.ref M.2.1]) rfl (okc_t rfl rfl rfl hM21.1.1 hY1 (by decide)) rfl rfl (ct_u4 (hM21.1.1.bytes hY1).1 (by omega)) (fun v23 M24 h25 => ?_)
  obtain ⟨rfl, h25⟩ := h25
  rw [h25]
  show ml _ _ _ (37, [(3, .ref b), (0, .ref M.2.1), (1, .ref c), (2, .int x2)], [.int (sp_u4 n (Y1.2 da) (x2 + 4)), .ref M.2.1], M20) _
  refine mm_put (l' := [.int (sp_u2 n (Y1.2 da) x2), .int (sp_u2 n (Y1.2 da) (x2 + 2)), .int (sp_u4 n (Y1.2 da) (x2 + 4)), .int 0, .int 0, .null, .int 0, .null, .int 0, .null, .null]) rfl hW hM21 rfl rfl rfl (fun M26 hM27 f28 => ?_)
  show ml _ _ _ (40, [(3, .ref b), (0, .ref M.2.1), (1, .ref c), (2, .int x2)], [], M26) _
  refine ml_blk 3 (S' := (44, [(3, .ref b), (0, .ref M.2.1), (1, .ref c), (2, .int x2)], [.int 8, .int x2, .ref M.2.1], M26)) rfl ?_
  refine ml_blk 2 (S' := (46, [(3, .ref b), (0, .ref M.2.1), (1, .ref c), (2, .int x2)], [.ref M.2.1, .int (x2 + 8), .ref M.2.1], M26)) rfl ?_
  refine mo_get (S' := (49, [(3, .ref b), (0, .ref M.2.1), (1, .ref c), (2, .int x2)], [.int (sp_u4 n (Y1.2 da) (x2 + 4)), .int (x2 + 8), .ref M.2.1], M26)) rfl hM27.2.1 rfl rfl ?_
  refine ml_blk 3 (S' := (52, [(3, .ref b), (0, .ref M.2.1), (1, .ref c), (2, .int x2)], [.int (((x2 + 8) + (sp_u4 n (Y1.2 da) (x2 + 4))) + 2), .ref M.2.1], M26)) rfl ?_
  refine mm_put (l' := [.int (sp_u2 n (Y1.2 da) x2), .int (sp_u2 n (Y1.2 da) (x2 + 2)), .int (sp_u4 n (Y1.2 da) (x2 + 4)), .int (((x2 + 8) + (sp_u4 n (Y1.2 da) (x2 + 4))) + 2), .int 0, .null, .int 0, .null, .int 0, .null, .null]) rfl hW hM27 rfl rfl rfl (fun M29 hM30 f31 => ?_)
  show ml _ _ _ (55, [(3, .ref b), (0, .ref M.2.1), (1, .ref c), (2, .int x2)], [], M29) _
  refine ml_blk 3 (S' := (58, [(3, .ref b), (0, .ref M.2.1), (1, .ref c), (2, .int x2)], [.ref M.2.1, .ref b, .ref M.2.1], M29)) rfl ?_
  refine mo_get (S' := (61, [(3, .ref b), (0, .ref M.2.1), (1, .ref c), (2, .int x2)], [.int (((x2 + 8) + (sp_u4 n (Y1.2 da) (x2 + 4))) + 2), .ref b, .ref M.2.1], M29)) rfl hM30.2.1 rfl rfl ?_
  refine ml_blk 2 (S' := (63, [(3, .ref b), (0, .ref M.2.1), (1, .ref c), (2, .int x2)], [.int ((((x2 + 8) + (sp_u4 n (Y1.2 da) (x2 + 4))) + 2) - 2), .ref b, .ref M.2.1], M29)) rfl ?_
  refine ml_call (a := [.ref b, .int ((((x2 + 8) + (sp_u4 n (Y1.2 da) (x2 + 4))) + 2) - 2)]) (rest := [.ref M.2.1]) rfl (okc_t rfl rfl rfl hM30.1.1 hY1 (by decide)) rfl rfl (ct_u2 (hM30.1.1.bytes hY1).1 (by omega)) (fun v32 M33 h34 => ?_)
  obtain ⟨rfl, h34⟩ := h34
  rw [h34]
  show ml _ _ _ (66, [(3, .ref b), (0, .ref M.2.1), (1, .ref c), (2, .int x2)], [.int (sp_u2 n (Y1.2 da) ((((x2 + 8) + (sp_u4 n (Y1.2 da) (x2 + 4))) + 2) - 2)), .ref M.2.1], M29) _
  refine mm_put (l' := [.int (sp_u2 n (Y1.2 da) x2), .int (sp_u2 n (Y1.2 da) (x2 + 2)), .int (sp_u4 n (Y1.2 da) (x2 + 4)), .int (((x2 + 8) + (sp_u4 n (Y1.2 da) (x2 + 4))) + 2), .int (sp_u2 n (Y1.2 da) ((((x2 + 8) + (sp_u4 n (Y1.2 da) (x2 + 4))) + 2) - 2)), .null, .int 0, .null, .int 0, .null, .null]) rfl hW hM30 rfl rfl rfl (fun M35 hM36 f37 => ?_)
  show ml _ _ _ (69, [(3, .ref b), (0, .ref M.2.1), (1, .ref c), (2, .int x2)], [], M35) _
  refine ml_blk 2 (S' := (71, [(3, .ref b), (0, .ref M.2.1), (1, .ref c), (2, .int x2)], [.ref c, .ref M.2.1], M35)) rfl ?_
  refine tg_vo rfl hM36.1.1 hY0 (by decide) rfl (fun b38 g40 h39 => ?_)
  obtain ⟨s41, h39⟩ := h39
  show ml _ _ _ (74, [(3, .ref b), (0, .ref M.2.1), (1, .ref c), (2, .int x2)], [.ref b38, .ref M.2.1], M35) _
  refine mm_put (l' := [.int (sp_u2 n (Y1.2 da) x2), .int (sp_u2 n (Y1.2 da) (x2 + 2)), .int (sp_u4 n (Y1.2 da) (x2 + 4)), .int (((x2 + 8) + (sp_u4 n (Y1.2 da) (x2 + 4))) + 2), .int (sp_u2 n (Y1.2 da) ((((x2 + 8) + (sp_u4 n (Y1.2 da) (x2 + 4))) + 2) - 2)), .ref b38, .int 0, .null, .int 0, .null, .null]) rfl hW hM36 rfl rfl rfl (fun M42 hM43 f44 => ?_)
  show ml _ _ _ (77, [(3, .ref b), (0, .ref M.2.1), (1, .ref c), (2, .int x2)], [], M42) _
  refine ml_blk 2 (S' := (79, [(3, .ref b), (0, .ref M.2.1), (1, .ref c), (2, .int x2)], [.ref c, .ref M.2.1], M42)) rfl ?_
  refine tg_int rfl hM43.1.1 hY0 (by decide) rfl (fun u45 g46 => ?_)
  show ml _ _ _ (82, [(3, .ref b), (0, .ref M.2.1), (1, .ref c), (2, .int x2)], [.int u45, .ref M.2.1], M42) _
  refine mm_put (l' := [.int (sp_u2 n (Y1.2 da) x2), .int (sp_u2 n (Y1.2 da) (x2 + 2)), .int (sp_u4 n (Y1.2 da) (x2 + 4)), .int (((x2 + 8) + (sp_u4 n (Y1.2 da) (x2 + 4))) + 2), .int (sp_u2 n (Y1.2 da) ((((x2 + 8) + (sp_u4 n (Y1.2 da) (x2 + 4))) + 2) - 2)), .ref b38, .int u45, .null, .int 0, .null, .null]) rfl hW hM43 rfl rfl rfl (fun M47 hM48 f49 => ?_)
  show ml _ _ _ (85, [(3, .ref b), (0, .ref M.2.1), (1, .ref c), (2, .int x2)], [], M47) _
  refine ml_st (S' := (86, [(3, .ref b), (0, .ref M.2.1), (1, .ref c), (2, .int x2)], [.ref M.2.1], M47)) rfl rfl rfl ?_
  have hW_hM51 := hM48.1.1
  refine mm_new (k := 5) (N := 12) (ds := [.null, .int 0, .int 0, .int 0, .int 0, .int 0, .int 0, .int 0, .int 0, .int 0, .int 0, .int 0]) rfl hW_hM51 (fun M50 hM51 => ?_)
  show ml _ _ _ (89, [(3, .ref b), (0, .ref M.2.1), (1, .ref c), (2, .int x2)], [.ref M47.2.1, .ref M.2.1], M50) _
  refine ml_blk 3 (S' := (92, [(3, .ref b), (0, .ref M.2.1), (1, .ref c), (2, .int x2)], [.int x2, .ref b, .ref M47.2.1, .ref M47.2.1, .ref M.2.1], M50)) rfl ?_
  refine ml_blk 3 (S' := (96, [(3, .ref b), (0, .ref M.2.1), (1, .ref c), (2, .int x2)], [.ref M.2.1, .int (x2 + 8), .ref b, .ref M47.2.1, .ref M47.2.1, .ref M.2.1], M50)) rfl ?_
  refine mo_get (S' := (99, [(3, .ref b), (0, .ref M.2.1), (1, .ref c), (2, .int x2)], [.int (sp_u4 n (Y1.2 da) (x2 + 4)), .int (x2 + 8), .ref b, .ref M47.2.1, .ref M47.2.1, .ref M.2.1], M50)) rfl ((hM51.1.2.2.2.2 _ hM48.2.2.2).trans hM48.2.1) rfl rfl ?_
  refine ml_call (a := [.ref M47.2.1, .ref b, .int (x2 + 8), .int (sp_u4 n (Y1.2 da) (x2 + 4))]) (rest := [.ref M47.2.1, .ref M.2.1]) rfl (okc_v rfl rfl rfl hM51.2.1) rfl rfl (tk_Instruction hW_hM51 hM51  (by omega)) (fun v53 M54 h55 => ?_)
  obtain ⟨rfl, Y56, hM57, h58⟩ := h55
  have h59 := (h58 _ _ hY0).1
  have h60 := (h58 _ _ hY1).1
  have h61 := (h58 _ _ h39).1
  refine mm_done (k := 5) (ps := [b, n]) hM57 (okY_new (by decide) hM57.2.1 (by simp [sch]) ⟨rfl, ⟨_, rfl⟩, ⟨_, rfl⟩, ⟨_, rfl⟩, ⟨_, rfl⟩, ⟨_, rfl⟩, ⟨_, rfl⟩, ⟨_, rfl⟩, ⟨_, rfl⟩, ⟨_, rfl⟩, ⟨_, rfl⟩, ⟨_, rfl⟩, trivial⟩ ⟨_, _, (yadd_le hM57.2.2.1 _ _ h60).1⟩ ⟨hn, _, rfl, hl0, hl1⟩) (fun Y62 h63 h64 h65 => ?_)
  have h66 := (h64 _ _ h59).1
  have h67 := (h64 _ _ h60).1
  have h68 := (h64 _ _ h61).1
  have hM69 := hM48.tr h63
  show ml _ _ _ (102, [(3, .ref b), (0, .ref M.2.1), (1, .ref c), (2, .int x2)], [.ref M47.2.1, .ref M.2.1], M54) _
  refine mm_put (l' := [.int (sp_u2 n (Y1.2 da) x2), .int (sp_u2 n (Y1.2 da) (x2 + 2)), .int (sp_u4 n (Y1.2 da) (x2 + 4)), .int (((x2 + 8) + (sp_u4 n (Y1.2 da) (x2 + 4))) + 2), .int (sp_u2 n (Y1.2 da) ((((x2 + 8) + (sp_u4 n (Y1.2 da) (x2 + 4))) + 2) - 2)), .ref b38, .int u45, .ref M47.2.1, .int 0, .null, .null]) rfl hW hM69 rfl rfl rfl (fun M70 hM71 f72 => ?_)
  show ml _ _ _ (105, [(3, .ref b), (0, .ref M.2.1), (1, .ref c), (2, .int x2)], [], M70) _
  refine ml_blk 2 (S' := (107, [(3, .ref b), (0, .ref M.2.1), (1, .ref c), (2, .int x2)], [.int 0, .ref M.2.1], M70)) rfl ?_
  refine mm_put (l' := [.int (sp_u2 n (Y1.2 da) x2), .int (sp_u2 n (Y1.2 da) (x2 + 2)), .int (sp_u4 n (Y1.2 da) (x2 + 4)), .int (((x2 + 8) + (sp_u4 n (Y1.2 da) (x2 + 4))) + 2), .int (sp_u2 n (Y1.2 da) ((((x2 + 8) + (sp_u4 n (Y1.2 da) (x2 + 4))) + 2) - 2)), .ref b38, .int u45, .ref M47.2.1, .int 0, .null, .null]) rfl hW hM71 rfl rfl rfl (fun M73 hM74 f75 => ?_)
  show ml _ _ _ (110, [(3, .ref b), (0, .ref M.2.1), (1, .ref c), (2, .int x2)], [], M73) _
  have ho : okY (yadd Y62 M.2.1 4 [b38, M47.2.1, n]) M73 M.2.1 4 [b38, M47.2.1, n] := okY_new (by decide) hM74.2.1 (by simp [sch]) ⟨⟨_, rfl⟩, ⟨_, rfl⟩, ⟨_, rfl⟩, ⟨_, rfl⟩, ⟨_, rfl⟩, rfl, ⟨_, rfl⟩, rfl, ⟨_, rfl⟩, Or.inl rfl, Or.inl rfl, trivial⟩ ⟨⟨_, ((yadd_le hM74.2.2.1) _ _ h68).1⟩, _, ((yadd_le hM74.2.2.1) _ _ h65).1⟩ ⟨hn2, _, rfl, hl0, hl1⟩
  have hd9 := hM74.done ho
  exact ml_ret rfl (rfl) (⟨rfl, _, _, _, hd9.le (by omega) (by omega), (h63.2.1).tr (yadd_le hM74.2.2.1), yadd_at⟩)
end
section
/-! rows are written; what code and members say (my own text) -/
section MIB
variable {g : xe_G} {Y Y' : yT} {M M' : mi_H}
theorem WF.uprow {a ka : Nat} {pa : List Nat} {cl : mi_C} {x : FieldType × Nat × (Nat → Option Value)} (h : WF g Y M) (hY : Y.1 a = some (ka, pa)) (h1 : ka ≠ 31) (h3 : ka ≠ 33) (h4 : ka ≠ 34) (hc : M.1 a = some (.inl x)) (ho : okY Y (up M a cl) a ka pa) : WF g Y (up M a cl) := by
  refine ⟨fun b kb pb hb => ?_, h.2.1, fun i hi => ?_⟩
  · by_cases e : b = a
    · subst e
      cases hY.symm.trans hb
      exact ho
    · rcases h.1 b kb pb hb with ⟨hk, l, q1, q2, q3, q4, q5⟩ | ⟨n, r, e', ty, f, q1, q2, q3⟩ | ⟨hk, n, da, m, e', hn, f, q1, q2⟩
      · refine Or.inl ⟨hk, l, up_eq q1 e, q2, q3, q4, ?_⟩
        unfold xtr at q5 ⊢
        split at q5
        · exact q5
        · exact q5
        · exact q5
        · exact q5
        · obtain ⟨a1, a2, cc, sz, g1, g3, g4, b1, b2, b3, b4, b5, b6, b7⟩ := q5
          obtain ⟨k1, k2, k3, k4, k5, k6⟩ := q4
          exact ⟨a1, a2, cc, sz, g1, g3, g4, b1, b2, b3, up_eq b4 (ykne k1 hY (fun e => h1 e.symm)), up_eq b5 (ykne k3 hY (fun e => h3 e.symm)), up_eq b6 (ykne k4 hY (fun e => h4 e.symm)), b7⟩
        · exact q5
        · trivial
      · exact Or.inr (Or.inl ⟨n, r, e', ty, f, q1, up_eq q2 e, q3⟩)
      · exact Or.inr (Or.inr ⟨hk, n, da, m, e', hn, f, up_eq q1 e, q2⟩)
  · obtain ⟨hb, f, hf⟩ := h.2.2 i hi
    refine ⟨hb, f, up_eq hf ?_⟩
    intro e
    rw [e, hc] at hf
    cases hf
variable {T : Nat → Option (Nat × mi_B)} {d pc : Nat} {tb : mi_B} {lv : List (Nat × Value)} {s0 : List Value} {Q : Option Value → mi_H → Prop}
theorem ts_int {M0 : mi_H} {n a kr : Nat} {r : List Nat} {i x : Int32} {nar : Int32 → Int32} (h1 : tb.1 pc = some (.inl (o_ast .int nar))) (hS : st g Y M0 M) (hY : Y.1 a = some (kr, n :: r)) (hi : vp_in i n) (hk : kr = 21 ∨ kr = 35) (kk : ∀ M', st g Y M0 M' → (∀ z, z ≠ a → M'.1 z = M.1 z) → ml T d tb (mi_nk tb.2 (pc + 1, lv, s0, M')) Q) : ml T d tb (pc, lv, .int x :: .int i :: .ref a :: s0, M) Q := by
  have hr : rowT kr = some .int := by rcases hk with rfl | rfl <;> rfl
  obtain ⟨ty, f, h2, h3, h4, -⟩ := (hS.1.1 a _ _ hY).row hr
  cases hr.symm.trans h2
  refine mo_ast h1 h3 hi rfl (kk _ (hS.tr ⟨hS.1.uprow hY (by omega) (by omega) (by omega) h3 ?_, rfl, fun z hz => up_ne ?_⟩) (fun z hz => up_ne hz))
  · exact Or.inr (Or.inl ⟨n, r, rfl, .int, _, hr, up_at, h4, fun q => by omega, fun q => by omega, fun q => by omega⟩)
  · intro e
    subst e
    rw [hY] at hz
    cases hz
theorem ts_mem {M0 : mi_H} {n a da m b : Nat} {i : Int32} (h1 : tb.1 pc = some (.inl (o_aast "ClassGate$Member"))) (hS : st g Y M0 M) (hY : Y.1 a = some (23, [n, da, m])) (hb : Y.1 b = some (6, [da, m])) (hi : vp_in i n) (kk : ∀ M', st g Y M0 M' → (∀ z, z ≠ a → M'.1 z = M.1 z) → ml T d tb (mi_nk tb.2 (pc + 1, lv, s0, M')) Q) : ml T d tb (pc, lv, .ref b :: .int i :: .ref a :: s0, M) Q := by
  obtain ⟨h4, f, h2, h3⟩ := (hS.1.1 a _ _ hY).mem
  obtain ⟨l, hl⟩ := hS.1.cls hb (by decide)
  have hok : mi_ok M "ClassGate$Member" b = true := by
    unfold mi_ok
    rw [hl]
    rfl
  have hg : mi_ga M a (.object "ClassGate$Member") = some (n, fun i => some (va_rf (f i))) := by
    unfold mi_ga
    rw [h2]
    simp
  refine ml_st (S1 := (pc + 1, lv, s0, va_up M.1 a (some (.inl (.object "ClassGate$Member", n, va_up (fun i => some (va_rf (f i))) i.toNatClampNeg (some (.ref b))))), M.2)) h1 ?_ rfl ?_
  · simp only [o_aast, hg, hok]
    rw [if_neg hi, if_pos True.intro]
  have e : va_up (fun i => some (va_rf (f i))) i.toNatClampNeg (some (.ref b)) = fun j => some (va_rf ((if j = i.toNatClampNeg then some b else f j))) := by
    funext j
    by_cases h : j = i.toNatClampNeg
    · simp [va_up, h, va_rf]
    · simp [va_up, h]
  rw [e]
  refine kk (up M a _) (hS.tr ⟨hS.1.uprow hY (by decide) (by decide) (by decide) h2 ?_, rfl, fun z hz => up_ne ?_⟩) (fun z hz => up_ne hz)
  · refine Or.inr (Or.inr ⟨rfl, n, da, m, rfl, h4, _, up_at, fun j c hc => ?_⟩)
    by_cases h : j = i.toNatClampNeg
    · rw [if_pos h] at hc
      cases hc
      exact hb
    · rw [if_neg h] at hc
      exact h3 j c hc
  · intro e
    subst e
    rw [hY] at hz
    cases hz
theorem WF.pl8 {p n m t tp f s sh ch : Nat} (h : WF g Y M) (hY : Y.1 p = some (7, [n, m, t, tp, f, s, sh, ch])) : ∃ (g1 g3 g4 : Nat → Int32) (cc : Int32), M.1 t = some (ar .int n g1) ∧ M.1 f = some (ar .int n g3) ∧ M.1 s = some (ar .int n g4) ∧ n < 1073741824 ∧ m < 1073741824 ∧ ∀ k, k < n → g1 k = 1 → 0 ≤ (g3 k).toInt ∧ 0 ≤ (g4 k).toInt ∧ (g3 k).toInt + (g4 k).toInt ≤ m := by
  obtain ⟨l, h1, h0, -, h4, j1, j2, cc, sz, g1, g3, g4, e7, e0, hs, m1, m3, m4, hx⟩ := (h.1 p 7 _ hY).obj (by decide)
  refine ⟨g1, g3, g4, cc, m1, m3, m4, j1, j2, fun k hk hg => ?_⟩
  obtain ⟨a1, a2, a3⟩ := hx
  obtain ⟨b1, b2, b3⟩ := a3 k hk hg
  exact ⟨b1, b2, Int.le_trans b3 a2⟩
theorem WF.psz {p : Nat} {pp : List Nat} {x : Int32} (h : WF g Y M) (hY : Y.1 p = some (7, pp)) (hg : mi_gf M p 7 0 = some (.int x)) : x.toInt ≤ 65535 := by
  obtain ⟨size, n, m, q, f, cc, hP, hT, hn, hm, hs, -⟩ := h.pool hY
  have : mi_gf M p 7 0 = some (.int size) := gf_ob hP.1 rfl
  rw [this] at hg
  cases hg
  exact hs
theorem tp_shapeOf {p n m t tp f s sh ch : Nat} {x1 x2 : Int32} (hW : WF g Y M) (hY : Y.1 p = some (7, [n, m, t, tp, f, s, sh, ch])) (h1 : 0 ≤ x1.toInt) (h2 : x2.toInt ≤ m) (hd : 4 ≤ d) : mt (mT g) d 137 [.ref p, .int x1, .int x2] M (pI M) := by
  obtain ⟨size, n', m', q, f', cc, hP, hT, hn, hm, hs, hc, hpp⟩ := hW.pool hY
  have e : m = m' := by simp only [List.cons.injEq] at hpp; exact hpp.2.1
  subst e
  exact ct_shapeOf hP h1 h2 hm hd
theorem u2_le {n : Nat} {f : Nat → Int32} {a : Int32} : (sp_u2 n f a).toInt ≤ 65535 := by
  have key : ∀ x y : Int32, (((x &&& 255) <<< (8 &&& 31)) ||| (y &&& 255)).toInt ≤ 65535 := by
    intro x y
    have h1 : (((x &&& 255) <<< ((8 : Int32) &&& 31)) ||| (y &&& 255)).toBitVec.msb = false := by
      show (((x.toBitVec &&& 255#32) <<< (8 : Nat)) ||| (y.toBitVec &&& 255#32)).msb = false
      simp [BitVec.msb_eq_getLsbD_last]
    have h2 := BitVec.toInt_eq_toNat_of_msb h1
    show (((x &&& 255) <<< ((8 : Int32) &&& 31)) ||| (y &&& 255)).toBitVec.toInt ≤ 65535
    rw [h2]
    have h3 : (((x &&& 255) <<< ((8 : Int32) &&& 31)) ||| (y &&& 255)).toBitVec.toNat < 2 ^ 16 := by
      show (((x.toBitVec &&& 255#32) <<< (8 : Nat)) ||| (y.toBitVec &&& 255#32)).toNat < 2 ^ 16
      rw [BitVec.toNat_or]
      have hx : (x.toBitVec &&& 255#32).toNat < 2 ^ 8 := by
        rw [BitVec.toNat_and]
        exact Nat.lt_of_le_of_lt Nat.and_le_right (by decide)
      have hy : (y.toBitVec &&& 255#32).toNat < 2 ^ 8 := by
        rw [BitVec.toNat_and]
        exact Nat.lt_of_le_of_lt Nat.and_le_right (by decide)
      refine Nat.or_lt_two_pow ?_ (by omega)
      rw [BitVec.toNat_shiftLeft, Nat.shiftLeft_eq]
      exact Nat.lt_of_le_of_lt (Nat.mod_le _ _) (by omega)
    omega
  unfold sp_u2
  split
  · decide
  · split
    · exact key _ _
    · decide
theorem mm_newf {c : Nat} {k N : Nat} {ds : List Value} (h1 : tb.1 pc = some (.inl (o_new k N ds))) (hW : WF g Y M) (kk : ∀ M1, sm g Y M Y M1 ds k 1 N → (∀ x, x ≠ M.2.1 → M1.1 x = M.1 x) → ml T d tb (mi_nk tb.2 (pc + 3, lv, .ref M.2.1 :: s0, M1)) Q) : ml T d tb (pc, lv, s0, M) Q :=
  ml_new h1 rfl (kk _ (sm.mk hW) (fun x hx => mk1_ne hx))
theorem room_ok {x a : Int32} {n : Nat} (hn : n < 1073741824) (h0 : 0 ≤ a.toInt) (h1 : a.toInt ≤ n) : 0 ≤ (if 0 < (if ((nI n - a) / 8) < x then ((nI n - a) / 8) else x) then (if ((nI n - a) / 8) < x then ((nI n - a) / 8) else x) else 0).toInt ∧ 8 * (if 0 < (if ((nI n - a) / 8) < x then ((nI n - a) / 8) else x) then (if ((nI n - a) / 8) < x then ((nI n - a) / 8) else x) else 0).toInt ≤ n := by
  have z : (0 : Int32).toInt = 0 := rfl
  have e : (nI n - a).toInt = n - a.toInt := by
    rw [i_sub (by rw [nI_val hn]; omega) (by rw [nI_val hn]; omega), nI_val hn]
  have e8 : ((nI n - a) / 8).toInt = (n - a.toInt) / 8 := by rw [i_div8 (by omega), e]
  have hu : (if ((nI n - a) / 8) < x then ((nI n - a) / 8) else x).toInt ≤ (n - a.toInt) / 8 := by
    split
    · omega
    · rename_i h2
      have := i_nlt h2
      omega
  generalize (if ((nI n - a) / 8) < x then ((nI n - a) / 8) else x) = u at *
  split
  · rename_i h2
    have := i_lt h2
    omega
  · omega
theorem WF.code {a p o k : Nat} (h : WF g Y M) (hY : Y.1 a = some (4, [p, o, k])) : k ≤ 65540 ∧ ∃ x : Int32, mi_gf M a 4 2 = some (.int x) ∧ 0 ≤ x.toInt ∧ x.toInt ≤ k := by
  obtain ⟨l, h1, -, -, -, h0, x, h2, h3⟩ := (h.1 a 4 _ hY).obj (by decide)
  exact ⟨h0, x, gf_ob h1 h2, h3⟩
theorem WF.mem {a da n : Nat} (h : WF g Y M) (hY : Y.1 a = some (6, [da, n])) : ∃ x y : Int32, mi_gf M a 6 4 = some (.int x) ∧ mi_gf M a 6 5 = some (.int y) ∧ 0 ≤ x.toInt ∧ AW (Y.2 da) n x.toInt.toNat y := by
  obtain ⟨l, h1, -, -, -, x, y, h2, h3, h4, h5⟩ := (h.1 a 6 _ hY).obj (by decide)
  exact ⟨x, y, gf_ob h1 h2, gf_ob h1 h3, h4, h5⟩
theorem vin_c {i ln : Int32} (h0 : 0 ≤ i.toInt) (h : i.toInt < ln.toInt) : vp_in i ln.toNatClampNeg := by
  rintro (q | q)
  · exact nlt0 h0 q
  · have : ln.toInt.toNat ≤ i.toInt.toNat := q
    omega
theorem WF.mlen {a k da n : Nat} (h : WF g Y M) (hY : Y.1 a = some (23, [k, da, n])) : k < 1073741824 ∧ 8 * k ≤ n := (h.1 a _ _ hY).mem.1
/-- bit 2 of what was seen -/
def b2 (s : Int32) : Prop := ¬ (((s >>> (2 &&& 31)) &&& 1) = 0)
theorem ssr_bit (v : BitVec 32) : (v.sshiftRight 2 &&& 1#32).getLsbD 0 = v.getLsbD 2 := by
  rw [BitVec.getLsbD_and, BitVec.getLsbD_sshiftRight]
  simp
theorem b2_iff (s : Int32) : b2 s ↔ s.toBitVec.getLsbD 2 = true := by
  unfold b2
  rw [← Int32.toBitVec_inj]
  show ¬ (s.toBitVec.sshiftRight 2 &&& 1#32 = 0#32) ↔ _
  constructor
  · intro h
    cases hb : s.toBitVec.getLsbD 2 with
    | true => rfl
    | false =>
      refine absurd (BitVec.eq_of_getLsbD_eq fun i hi => ?_) h
      rcases i with _ | i
      · rw [ssr_bit, hb]
        rfl
      · simp
  · intro h e
    have e2 := congrArg (fun v => BitVec.getLsbD v 0) e
    rw [ssr_bit, h] at e2
    exact absurd e2 (by decide)
theorem b2_or {s t : Int32} (h : b2 s) : b2 (s ||| t) := by
  rw [b2_iff] at h ⊢
  rw [Int32.toBitVec_or, BitVec.getLsbD_or, h]
  rfl
theorem b2_two {s x : Int32} (h : x = 2) : b2 (s ||| (1 <<< (x &&& 31))) := by
  subst h
  rw [b2_iff, Int32.toBitVec_or, BitVec.getLsbD_or]
  have : ((1 : Int32) <<< ((2 : Int32) &&& 31)).toBitVec.getLsbD 2 = true := by decide
  rw [this, Bool.or_true]
end MIB
end
section
/-! code is cut up (laid by wip/p2/c53.py) -/
set_option maxHeartbeats 2000000 in
theorem tw_Co_cutUp {g : xe_G} {M : mi_H} {Y : yT} {a p o k b da n : Nat} {pp : List Nat}  (hW : WF g Y M) (hY0 : Y.1 a = some (4, [p, o, k])) (hY1 : Y.1 p = some (7, pp)) (hY2 : Y.1 o = some (5, [b, k])) (hY3 : Y.1 b = some (1, [da, n])) {d : Nat} (hd : 7 ≤ d) : mt (mT g) d 76 [.ref a] M (fun v M' => ∃ Y', (∃ x : Int32, v = some (.int x)) ∧ sa g Y M Y' M' 2 (2 * k)) := by
  obtain ⟨d, rfl⟩ : ∃ e, d = e + 1 := ⟨d - 1, by omega⟩
  have hS : st g Y M M := st.rf hW
  refine mt_in (b := mb_76 g) rfl rfl ?_
  show ml (mT g) d (mb_76 g).2 (0, [(0, .ref a)], [], M) _
  have hA := sa.rf hW
  obtain ⟨hk, ln, hg2, hl0, hl1⟩ := hW.code hY0
  refine ml_st (S' := (1, [(0, .ref a)], [.ref a], M)) rfl rfl rfl ?_
  refine tg_int rfl hS.1 hY0 (by decide) rfl (fun u1 g2 => ?_)
  show ml _ _ _ (4, [(0, .ref a)], [.int u1], M) _
  refine ml_if (S1 := (12, [(0, .ref a)], [], M)) (S2 := (7, [(0, .ref a)], [], M)) rfl rfl rfl (fun c_4 => ?_) (fun c_4 => ?_)
  · have c_4 : u1 = 0 := of_decide_eq_true c_4
    refine ml_blk 2 (S' := (14, [(0, .ref a)], [.ref a, .int 0], M)) rfl ?_
    refine ml_get (S' := (17, [(0, .ref a)], [.int ln, .int 0], M)) rfl hg2 rfl ?_
    refine ml_st (S' := (20, [(0, .ref a)], [.int (if 0 < ln then ln else 0)], M)) rfl rfl rfl ?_
    rw [mx0 hl0]
    refine ml_st (S' := (21, [(1, .int ln), (0, .ref a)], [], M)) rfl rfl rfl ?_
    refine ml_blk 2 (S' := (23, [(1, .int ln), (0, .ref a)], [.int ln, .ref a], M)) rfl ?_
    refine ml_newa (S' := (25, [(1, .int ln), (0, .ref a)], [.ref M.2.1, .ref a], (mk1 M (ar .int (Int32.toNatClampNeg ln) (fun _ => 0)) (Int32.toNatClampNeg ln)))) rfl (hl0) ((by omega)) rfl ?_
    refine mm_row (kr := 21) (pr := [(Int32.toNatClampNeg ln)]) hS.1 (okY_row rfl ((by show ln.toInt.toNat < _; omega)) (by decide) (fun h => absurd h (by decide)) (fun h => absurd h (by decide))) (fun Y3 M4 b5 _ h6 h7 h8 f9 => ?_)
    have g10 := gf_fr (f9 a (hS.1.2.1 _ _ hY0)) hg2
    have hA11 := (hA.st hS).tr h6.sa
    have hS12 := st.rf hA11.1
    have h13 := (h6.2.1 _ _ hY0).1
    have h14 := (h6.2.1 _ _ hY1).1
    have h15 := (h6.2.1 _ _ hY2).1
    have h16 := (h6.2.1 _ _ hY3).1
    show ml _ _ _ (25, [(1, .int ln), (0, .ref a)], [.ref b5, .ref a], M4) _
    refine tp_put rfl hS12 h13 (by decide) rfl (Or.inr ⟨_, rfl, _, h7⟩) rfl rfl (fun M17 hS18 f19 => ?_)
    have g20 := f19.2.1 2 _ (by decide) g10
    show ml _ _ _ (28, [(1, .int ln), (0, .ref a)], [], M17) _
    refine ml_blk 2 (S' := (30, [(1, .int ln), (0, .ref a)], [.int ln, .ref a], M17)) rfl ?_
    refine ml_newa (S' := (32, [(1, .int ln), (0, .ref a)], [.ref M17.2.1, .ref a], (mk1 M17 (ar .int (Int32.toNatClampNeg ln) (fun _ => 0)) (Int32.toNatClampNeg ln)))) rfl (hl0) ((by omega)) rfl ?_
    refine mm_row (kr := 21) (pr := [(Int32.toNatClampNeg ln)]) hS18.1 (okY_row rfl ((by show ln.toInt.toNat < _; omega)) (by decide) (fun h => absurd h (by decide)) (fun h => absurd h (by decide))) (fun Y21 M22 b23 _ h24 h25 h26 f27 => ?_)
    have g28 := gf_fr (f27 a (hS18.1.2.1 _ _ h13)) g20
    have g29 := gf_fr (f27 a (hS18.1.2.1 _ _ h13)) f19.2.2.1
    have hA30 := (hA11.st hS18).tr h24.sa
    have hS31 := st.rf hA30.1
    have h32 := (h24.2.1 _ _ h13).1
    have h33 := (h24.2.1 _ _ h14).1
    have h34 := (h24.2.1 _ _ h15).1
    have h35 := (h24.2.1 _ _ h16).1
    have h36 := (h24.2.1 _ _ h7).1
    show ml _ _ _ (32, [(1, .int ln), (0, .ref a)], [.ref b23, .ref a], M22) _
    refine tp_put rfl hS31 h32 (by decide) rfl (Or.inr ⟨_, rfl, _, h25⟩) rfl rfl (fun M37 hS38 f39 => ?_)
    have g40 := f39.2.1 2 _ (by decide) g28
    have g41 := f39.2.1 9 _ (by decide) g29
    show ml _ _ _ (35, [(1, .int ln), (0, .ref a)], [], M37) _
    refine ml_st (S' := (36, [(1, .int ln), (0, .ref a)], [.int 0], M37)) rfl rfl rfl ?_
    refine ml_st (S' := (37, [(2, .int 0), (1, .int ln), (0, .ref a)], [], M37)) rfl rfl rfl ?_
    refine ml_st (S' := (38, [(2, .int 0), (1, .int ln), (0, .ref a)], [.int 0], M37)) rfl rfl rfl ?_
    refine ml_st (S' := (39, [(0, .ref a), (1, .int ln), (2, .int 0), (3, .int 0)], [], M37)) rfl rfl rfl ?_
    have L_39 : ∀ (n_39 : Nat) (i39_2 : Int32) (i39_3 : Int32) (M_39 : mi_H), (2147483648 - i39_3.toInt).toNat ≤ n_39 → (0 ≤ i39_3.toInt ∧ 0 ≤ i39_2.toInt ∧ i39_2.toInt ≤ ln.toInt ∧ mi_gf M_39 a 4 9 = some (.ref b5) ∧ mi_gf M_39 a 4 10 = some (.ref b23)) → st g Y21 M22 M_39 → ml (mT g) d (mb_76 g).2 (39, [(0, .ref a), (1, .int ln), (2, .int i39_2), (3, .int i39_3)], [], M_39) (fun v M' => ∃ Y', (∃ x : Int32, v = some (.int x)) ∧ sa g Y M Y' M' 2 (2 * k)) := by
      intro n_39
      induction n_39 with
      | zero => intro i39_2 i39_3 M_39 hn; exact (loop_zero hn).elim
      | succ n_39 ih_39 =>
        intro i39_2 i39_3 M_39 hn_39 hi_39 hS_39
        refine ml_blk 2 (S' := (41, [(0, .ref a), (1, .int ln), (2, .int i39_2), (3, .int i39_3)], [.int ln, .int i39_3], M_39)) rfl ?_
        have J_110 : ml (mT g) d (mb_76 g).2 (110, [(0, .ref a), (2, .int i39_2)], [], M_39) (fun v M' => ∃ Y', (∃ x : Int32, v = some (.int x)) ∧ sa g Y M Y' M' 2 (2 * k)) := by
          refine ml_blk 2 (S' := (112, [(0, .ref a), (2, .int i39_2)], [.int i39_2, .ref a], M_39)) rfl ?_
          refine tp_put rfl hS_39 h32 (by decide) rfl (⟨_, rfl⟩) rfl rfl (fun M42 hS43 f44 => ?_)
          have g45 := f44.2.1 9 _ (by decide) hi_39.2.2.2.1
          have g46 := f44.2.1 10 _ (by decide) hi_39.2.2.2.2
          show ml _ _ _ (115, [(0, .ref a), (2, .int i39_2)], [], M42) _
          refine ml_st (S' := (116, [(0, .ref a), (2, .int i39_2)], [.int 0], M42)) rfl rfl rfl ?_
          refine ml_st (S' := (117, [(0, .ref a), (2, .int i39_2), (3, .int 0)], [], M42)) rfl rfl rfl ?_
          have L_117 : ∀ (n_117 : Nat) (i117_3 : Int32) (M_117 : mi_H), (2147483648 - i117_3.toInt).toNat ≤ n_117 → (0 ≤ i117_3.toInt ∧ mi_gf M_117 a 4 9 = some (.ref b5)) → st g Y21 M22 M_117 → ml (mT g) d (mb_76 g).2 (117, [(0, .ref a), (2, .int i39_2), (3, .int i117_3)], [], M_117) (fun v M' => ∃ Y', (∃ x : Int32, v = some (.int x)) ∧ sa g Y M Y' M' 2 (2 * k)) := by
            intro n_117
            induction n_117 with
            | zero => intro i117_3 M_117 hn; exact (loop_zero hn).elim
            | succ n_117 ih_117 =>
              intro i117_3 M_117 hn_117 hi_117 hS_117
              refine ml_blk 2 (S' := (119, [(0, .ref a), (2, .int i39_2), (3, .int i117_3)], [.int i39_2, .int i117_3], M_117)) rfl ?_
              refine ml_if2 (S1 := (172, [(0, .ref a)], [], M_117)) (S2 := (122, [(0, .ref a), (2, .int i39_2), (3, .int i117_3)], [], M_117)) rfl rfl rfl (fun c_119 => ?_) (fun c_119 => ?_)
              · have c_119 : i39_2 ≤ i117_3 := of_decide_eq_true c_119
                refine ml_st (S' := (173, [(0, .ref a)], [.ref a], M_117)) rfl rfl rfl ?_
                refine tg_int rfl hS_117.1 h32 (by decide) rfl (fun u47 g48 => ?_)
                show ml _ _ _ (176, [(0, .ref a)], [.int u47], M_117) _
                exact ml_ret rfl (rfl) (⟨Y21, ⟨_, rfl⟩, (hA30.st hS_117).le (by omega) (by have : (ln.toNatClampNeg : Int) = ln.toInt := (by show (ln.toInt.toNat : Int) = _; omega); omega)⟩)
              · have c_119 : ¬ (i39_2 ≤ i117_3) := of_decide_eq_false c_119
                refine ml_st (S' := (123, [(0, .ref a), (2, .int i39_2), (3, .int i117_3)], [.ref a], M_117)) rfl rfl rfl ?_
                refine tg_int rfl hS_117.1 h32 (by decide) rfl (fun u49 g50 => ?_)
                show ml _ _ _ (126, [(0, .ref a), (2, .int i39_2), (3, .int i117_3)], [.int u49], M_117) _
                refine ml_st (S' := (127, [(0, .ref a), (2, .int i39_2), (3, .int i117_3)], [.int i39_2, .int u49], M_117)) rfl rfl rfl ?_
                refine ml_if2 (S1 := (172, [(0, .ref a)], [], M_117)) (S2 := (130, [(0, .ref a), (2, .int i39_2), (3, .int i117_3)], [], M_117)) rfl rfl rfl (fun c_127 => ?_) (fun c_127 => ?_)
                · have c_127 : ¬ u49 = i39_2 := of_decide_eq_true c_127
                  refine ml_st (S' := (173, [(0, .ref a)], [.ref a], M_117)) rfl rfl rfl ?_
                  refine ml_get (S' := (176, [(0, .ref a)], [.int u49], M_117)) rfl g50 rfl ?_
                  exact ml_ret rfl (rfl) (⟨Y21, ⟨_, rfl⟩, (hA30.st hS_117).le (by omega) (by have : (ln.toNatClampNeg : Int) = ln.toInt := (by show (ln.toInt.toNat : Int) = _; omega); omega)⟩)
                · have c_127 : ¬ (¬ u49 = i39_2) := of_decide_eq_false c_127
                  refine ml_st (S' := (131, [(0, .ref a), (2, .int i39_2), (3, .int i117_3)], [.ref a], M_117)) rfl rfl rfl ?_
                  refine tg_ref (S' := (134, [(0, .ref a), (2, .int i39_2), (3, .int i117_3)], [.ref o], M_117)) rfl hS_117.1 h32 (by decide) rfl rfl ?_
                  refine ml_st (S' := (135, [(0, .ref a), (2, .int i39_2), (3, .int i117_3)], [.ref a, .ref o], M_117)) rfl rfl rfl ?_
                  refine ml_get (S' := (138, [(0, .ref a), (2, .int i39_2), (3, .int i117_3)], [.ref b5, .ref o], M_117)) rfl hi_117.2 rfl ?_
                  refine ml_st (S' := (139, [(0, .ref a), (2, .int i39_2), (3, .int i117_3)], [.int i117_3, .ref b5, .ref o], M_117)) rfl rfl rfl ?_
                  refine ta_int rfl hS_117.1 h36 (vin_c hi_117.1 (by have := i_nle c_119; have := hi_39.2.2.1; omega)) (fun u51 => ?_)
                  show ml _ _ _ (140, [(0, .ref a), (2, .int i39_2), (3, .int i117_3)], [.int u51, .ref o], M_117) _
                  refine ml_call (a := [.ref o, .int u51]) (rest := []) rfl (okc_t rfl rfl rfl hS_117.1 h34 (by decide)) rfl rfl (ti_isTakenApart hS_117.1 h34 h35 (by omega)) (fun v52 M53 h54 => ?_)
                  obtain ⟨⟨u55, rfl, z56⟩, h54⟩ := h54
                  have g57 := h54.2.gf (nin_cons (ykne h32 h34 (by decide)) nin_nil) hi_117.2
                  have hS58 := hS_117.tr h54.1
                  show ml _ _ _ (143, [(0, .ref a), (2, .int i39_2), (3, .int i117_3)], [.int u55], M53) _
                  refine ml_if (S1 := (166, [(0, .ref a), (2, .int i39_2), (3, .int i117_3)], [], M53)) (S2 := (146, [(0, .ref a), (2, .int i39_2), (3, .int i117_3)], [], M53)) rfl rfl rfl (fun c_143 => ?_) (fun c_143 => ?_)
                  · have c_143 : u55 = 0 := of_decide_eq_true c_143
                    refine ml_st (S' := (169, [(3, .int (i117_3 + 1)), (0, .ref a), (2, .int i39_2)], [], M53)) rfl rfl rfl ?_
                    refine ml_st (S' := (117, [(0, .ref a), (2, .int i39_2), (3, .int (i117_3 + 1))], [], M53)) rfl rfl rfl ?_
                    exact ih_117 (i117_3 + 1) _ (loop_inc (Int32.not_le.mp c_119) hn_117) (⟨by rw [inc_lt (Int32.not_le.mp c_119)]; have := hi_117.1; omega, g57⟩) hS58
                  · have c_143 : ¬ (u55 = 0) := of_decide_eq_false c_143
                    refine ml_st (S' := (147, [(0, .ref a), (2, .int i39_2), (3, .int i117_3)], [.ref a], M53)) rfl rfl rfl ?_
                    refine ml_call (a := [.ref a]) (rest := []) rfl (okc_t rfl rfl rfl hS58.1 h32 (by decide)) rfl rfl (tw_Co_targetsHold hS58.1 h32 h33 h34 h35 (by omega)) (fun v59 M60 h61 => ?_)
                    obtain ⟨⟨u62, rfl, z63⟩, h61⟩ := h61
                    rw [h61]
                    show ml _ _ _ (150, [(0, .ref a), (2, .int i39_2), (3, .int i117_3)], [.int u62], M53) _
                    refine ml_if (S1 := (166, [(0, .ref a), (2, .int i39_2), (3, .int i117_3)], [], M53)) (S2 := (153, [(0, .ref a), (2, .int i39_2), (3, .int i117_3)], [], M53)) rfl rfl rfl (fun c_150 => ?_) (fun c_150 => ?_)
                    · have c_150 : ¬ u62 = 0 := of_decide_eq_true c_150
                      refine ml_st (S' := (169, [(3, .int (i117_3 + 1)), (0, .ref a), (2, .int i39_2)], [], M53)) rfl rfl rfl ?_
                      refine ml_st (S' := (117, [(0, .ref a), (2, .int i39_2), (3, .int (i117_3 + 1))], [], M53)) rfl rfl rfl ?_
                      exact ih_117 (i117_3 + 1) _ (loop_inc (Int32.not_le.mp c_119) hn_117) (⟨by rw [inc_lt (Int32.not_le.mp c_119)]; have := hi_117.1; omega, g57⟩) hS58
                    · have c_150 : ¬ (¬ u62 = 0) := of_decide_eq_false c_150
                      refine ml_blk 3 (S' := (157, [(0, .ref a), (2, .int i39_2), (3, .int i117_3)], [.ref a, .int (-2), .ref a], M53)) rfl ?_
                      refine ml_get (S' := (160, [(0, .ref a), (2, .int i39_2), (3, .int i117_3)], [.ref b5, .int (-2), .ref a], M53)) rfl g57 rfl ?_
                      refine ml_st (S' := (161, [(0, .ref a), (2, .int i39_2), (3, .int i117_3)], [.int i117_3, .ref b5, .int (-2), .ref a], M53)) rfl rfl rfl ?_
                      refine ta_int rfl hS58.1 h36 (vin_c hi_117.1 (by have := i_nle c_119; have := hi_39.2.2.1; omega)) (fun u64 => ?_)
                      show ml _ _ _ (162, [(0, .ref a), (2, .int i39_2), (3, .int i117_3)], [.int u64, .int (-2), .ref a], M53) _
                      refine ml_st (S' := (163, [(0, .ref a), (2, .int i39_2), (3, .int i117_3)], [.int ((-2) - u64), .ref a], M53)) rfl rfl rfl ?_
                      refine tp_put rfl hS58 h32 (by decide) rfl (⟨_, rfl⟩) rfl rfl (fun M65 hS66 f67 => ?_)
                      have g68 := f67.2.1 9 _ (by decide) g57
                      show ml _ _ _ (166, [(0, .ref a), (2, .int i39_2), (3, .int i117_3)], [], M65) _
                      refine ml_st (S' := (169, [(3, .int (i117_3 + 1)), (0, .ref a), (2, .int i39_2)], [], M65)) rfl rfl rfl ?_
                      refine ml_st (S' := (117, [(0, .ref a), (2, .int i39_2), (3, .int (i117_3 + 1))], [], M65)) rfl rfl rfl ?_
                      exact ih_117 (i117_3 + 1) _ (loop_inc (Int32.not_le.mp c_119) hn_117) (⟨by rw [inc_lt (Int32.not_le.mp c_119)]; have := hi_117.1; omega, g68⟩) hS66
          exact L_117 _ 0 _ (Nat.le_refl _) (⟨by decide, g45⟩) hS43
        refine ml_if2 (S1 := (110, [(0, .ref a), (2, .int i39_2)], [], M_39)) (S2 := (44, [(0, .ref a), (1, .int ln), (2, .int i39_2), (3, .int i39_3)], [], M_39)) rfl rfl rfl (fun c_41 => ?_) (fun c_41 => ?_)
        · have c_41 : ln ≤ i39_3 := of_decide_eq_true c_41
          exact J_110 
        · have c_41 : ¬ (ln ≤ i39_3) := of_decide_eq_false c_41
          refine ml_blk 2 (S' := (46, [(0, .ref a), (1, .int ln), (2, .int i39_2), (3, .int i39_3)], [.int ln, .int i39_2], M_39)) rfl ?_
          refine ml_if2 (S1 := (110, [(0, .ref a), (2, .int i39_2)], [], M_39)) (S2 := (49, [(0, .ref a), (1, .int ln), (2, .int i39_2), (3, .int i39_3)], [], M_39)) rfl rfl rfl (fun c_46 => ?_) (fun c_46 => ?_)
          · have c_46 : ln ≤ i39_2 := of_decide_eq_true c_46
            exact J_110 
          · have c_46 : ¬ (ln ≤ i39_2) := of_decide_eq_false c_46
            refine ml_st (S' := (50, [(0, .ref a), (1, .int ln), (2, .int i39_2), (3, .int i39_3)], [.ref a], M_39)) rfl rfl rfl ?_
            refine tg_ref (S' := (53, [(0, .ref a), (1, .int ln), (2, .int i39_2), (3, .int i39_3)], [.ref o], M_39)) rfl hS_39.1 h32 (by decide) rfl rfl ?_
            refine ml_st (S' := (54, [(0, .ref a), (1, .int ln), (2, .int i39_2), (3, .int i39_3)], [.int i39_3, .ref o], M_39)) rfl rfl rfl ?_
            refine ml_call (a := [.ref o, .int i39_3]) (rest := []) rfl (okc_t rfl rfl rfl hS_39.1 h34 (by decide)) rfl rfl (ti_isTakenApart hS_39.1 h34 h35 (by omega)) (fun v69 M70 h71 => ?_)
            obtain ⟨⟨u72, rfl, z73⟩, h71⟩ := h71
            have g74 := h71.2.gf (nin_cons (ykne h32 h34 (by decide)) nin_nil) hi_39.2.2.2.1
            have g75 := h71.2.gf (nin_cons (ykne h32 h34 (by decide)) nin_nil) hi_39.2.2.2.2
            have hS76 := hS_39.tr h71.1
            show ml _ _ _ (57, [(0, .ref a), (1, .int ln), (2, .int i39_2), (3, .int i39_3)], [.int u72], M70) _
            refine ml_if (S1 := (67, [(0, .ref a), (3, .int i39_3)], [], M70)) (S2 := (60, [(0, .ref a), (1, .int ln), (2, .int i39_2), (3, .int i39_3)], [], M70)) rfl rfl rfl (fun c_57 => ?_) (fun c_57 => ?_)
            · have c_57 : u72 = 0 := of_decide_eq_true c_57
              refine ml_blk 3 (S' := (71, [(0, .ref a), (3, .int i39_3)], [.int i39_3, .int (-2), .ref a], M70)) rfl ?_
              refine ml_st (S' := (72, [(0, .ref a), (3, .int i39_3)], [.int ((-2) - i39_3), .ref a], M70)) rfl rfl rfl ?_
              refine tp_put rfl hS76 h32 (by decide) rfl (⟨_, rfl⟩) rfl rfl (fun M77 hS78 f79 => ?_)
              have g80 := f79.2.1 9 _ (by decide) g74
              have g81 := f79.2.1 10 _ (by decide) g75
              show ml _ _ _ (75, [(0, .ref a), (3, .int i39_3)], [], M77) _
              refine ml_st (S' := (76, [(0, .ref a), (3, .int i39_3)], [.ref a], M77)) rfl rfl rfl ?_
              refine ml_get (S' := (79, [(0, .ref a), (3, .int i39_3)], [.int ((-2) - i39_3)], M77)) rfl f79.2.2.1 rfl ?_
              exact ml_ret rfl (rfl) (⟨Y21, ⟨_, rfl⟩, (hA30.st hS78).le (by omega) (by have : (ln.toNatClampNeg : Int) = ln.toInt := (by show (ln.toInt.toNat : Int) = _; omega); omega)⟩)
            · have c_57 : ¬ (u72 = 0) := of_decide_eq_false c_57
              refine ml_st (S' := (61, [(0, .ref a), (1, .int ln), (2, .int i39_2), (3, .int i39_3)], [.ref a], M70)) rfl rfl rfl ?_
              refine ml_call (a := [.ref a]) (rest := []) rfl (okc_t rfl rfl rfl hS76.1 h32 (by decide)) rfl rfl (tw_Co_operandsHold hS76.1 h32 h33 h34 h35 (by omega)) (fun v82 M83 h84 => ?_)
              obtain ⟨⟨u85, rfl, z86⟩, h84⟩ := h84
              rw [h84]
              show ml _ _ _ (64, [(0, .ref a), (1, .int ln), (2, .int i39_2), (3, .int i39_3)], [.int u85], M70) _
              refine ml_if (S1 := (80, [(0, .ref a), (1, .int ln), (2, .int i39_2), (3, .int i39_3)], [], M70)) (S2 := (67, [(0, .ref a), (3, .int i39_3)], [], M70)) rfl rfl rfl (fun c_64 => ?_) (fun c_64 => ?_)
              · have c_64 : ¬ u85 = 0 := of_decide_eq_true c_64
                obtain ⟨-, sz, hsg, hsa, hsb⟩ := z73.resolve_left c_57
                have hsz : (i39_3 + sz).toInt = i39_3.toInt + sz.toInt ∧ 1 ≤ sz.toInt := ⟨i_add (by have := hi_39.1; omega) (by omega), hsa⟩
                refine ml_st (S' := (81, [(0, .ref a), (1, .int ln), (2, .int i39_2), (3, .int i39_3)], [.ref a], M70)) rfl rfl rfl ?_
                refine ml_get (S' := (84, [(0, .ref a), (1, .int ln), (2, .int i39_2), (3, .int i39_3)], [.ref b5], M70)) rfl g74 rfl ?_
                refine ml_blk 2 (S' := (86, [(0, .ref a), (1, .int ln), (2, .int i39_2), (3, .int i39_3)], [.int i39_3, .int i39_2, .ref b5], M70)) rfl ?_
                refine ts_int rfl hS76 h36 (vin_c hi_39.2.1 (i_nle c_46)) (Or.inl rfl) (fun M88 hS89 f90 => ?_)
                have g91 := gf_fr (f90 a (ykne h32 h36 (by decide))) g74
                have g92 := gf_fr (f90 a (ykne h32 h36 (by decide))) g75
                have g93 := gf_fr (f90 o (ykne h34 h36 (by decide))) hsg
                show ml _ _ _ (87, [(0, .ref a), (1, .int ln), (2, .int i39_2), (3, .int i39_3)], [], M88) _
                have hn1 : (i39_2 + 1).toInt = i39_2.toInt + 1 := inc_lt (Int32.not_le.mp c_46)
                refine ml_st (S' := (90, [(2, .int (i39_2 + 1)), (0, .ref a), (1, .int ln), (3, .int i39_3)], [], M88)) rfl rfl rfl ?_
                refine ml_st (S' := (91, [(2, .int (i39_2 + 1)), (0, .ref a), (1, .int ln), (3, .int i39_3)], [.ref a], M88)) rfl rfl rfl ?_
                refine ml_get (S' := (94, [(2, .int (i39_2 + 1)), (0, .ref a), (1, .int ln), (3, .int i39_3)], [.ref b23], M88)) rfl g92 rfl ?_
                refine ml_blk 2 (S' := (96, [(2, .int (i39_2 + 1)), (0, .ref a), (1, .int ln), (3, .int i39_3)], [.int (i39_2 + 1), .int i39_3, .ref b23], M88)) rfl ?_
                refine ts_int rfl hS89 h25 (vin_c hi_39.1 (i_nle c_41)) (Or.inl rfl) (fun M94 hS95 f96 => ?_)
                have g97 := gf_fr (f96 a (ykne h32 h25 (by decide))) g91
                have g98 := gf_fr (f96 a (ykne h32 h25 (by decide))) g92
                have g99 := gf_fr (f96 o (ykne h34 h25 (by decide))) g93
                show ml _ _ _ (97, [(2, .int (i39_2 + 1)), (0, .ref a), (1, .int ln), (3, .int i39_3)], [], M94) _
                refine ml_blk 2 (S' := (99, [(2, .int (i39_2 + 1)), (0, .ref a), (1, .int ln), (3, .int i39_3)], [.ref a, .int i39_3], M94)) rfl ?_
                refine tg_ref (S' := (102, [(2, .int (i39_2 + 1)), (0, .ref a), (1, .int ln), (3, .int i39_3)], [.ref o, .int i39_3], M94)) rfl hS95.1 h32 (by decide) rfl rfl ?_
                refine ml_get (S' := (105, [(2, .int (i39_2 + 1)), (0, .ref a), (1, .int ln), (3, .int i39_3)], [.int sz, .int i39_3], M94)) rfl g99 rfl ?_
                refine ml_st (S' := (106, [(2, .int (i39_2 + 1)), (0, .ref a), (1, .int ln), (3, .int i39_3)], [.int (i39_3 + sz)], M94)) rfl rfl rfl ?_
                refine ml_st (S' := (107, [(3, .int (i39_3 + sz)), (2, .int (i39_2 + 1)), (0, .ref a), (1, .int ln)], [], M94)) rfl rfl rfl ?_
                refine ml_st (S' := (39, [(0, .ref a), (1, .int ln), (2, .int (i39_2 + 1)), (3, .int (i39_3 + sz))], [], M94)) rfl rfl rfl ?_
                exact ih_39 (i39_2 + 1) (i39_3 + sz) _ (by rw [hsz.1]; omega) (⟨by rw [hsz.1]; have := hi_39.1; omega, by rw [hn1]; have := hi_39.2.1; omega, by rw [hn1]; have := i_nle c_46; omega, g97, g98⟩) hS95
              · have c_64 : ¬ (¬ u85 = 0) := of_decide_eq_false c_64
                refine ml_blk 3 (S' := (71, [(0, .ref a), (3, .int i39_3)], [.int i39_3, .int (-2), .ref a], M70)) rfl ?_
                refine ml_st (S' := (72, [(0, .ref a), (3, .int i39_3)], [.int ((-2) - i39_3), .ref a], M70)) rfl rfl rfl ?_
                refine tp_put rfl hS76 h32 (by decide) rfl (⟨_, rfl⟩) rfl rfl (fun M100 hS101 f102 => ?_)
                have g103 := f102.2.1 9 _ (by decide) g74
                have g104 := f102.2.1 10 _ (by decide) g75
                show ml _ _ _ (75, [(0, .ref a), (3, .int i39_3)], [], M100) _
                refine ml_st (S' := (76, [(0, .ref a), (3, .int i39_3)], [.ref a], M100)) rfl rfl rfl ?_
                refine ml_get (S' := (79, [(0, .ref a), (3, .int i39_3)], [.int ((-2) - i39_3)], M100)) rfl f102.2.2.1 rfl ?_
                exact ml_ret rfl (rfl) (⟨Y21, ⟨_, rfl⟩, (hA30.st hS101).le (by omega) (by have : (ln.toNatClampNeg : Int) = ln.toInt := (by show (ln.toInt.toNat : Int) = _; omega); omega)⟩)
    exact L_39 _ 0 0 _ (Nat.le_refl _) (⟨by decide, by decide, hl0, g41, f39.2.2.1⟩) hS38
  · have c_4 : ¬ (u1 = 0) := of_decide_eq_false c_4
    refine ml_st (S' := (8, [(0, .ref a)], [.ref a], M)) rfl rfl rfl ?_
    refine ml_get (S' := (11, [(0, .ref a)], [.int u1], M)) rfl g2 rfl ?_
    exact ml_ret rfl (rfl) (⟨Y, ⟨_, rfl⟩, (hA.st hS).le (by omega) (by have : (ln.toNatClampNeg : Int) = ln.toInt := (by show (ln.toInt.toNat : Int) = _; omega); omega)⟩)
end
section
/-! attributes of methods (laid by wip/p2/c54.py) -/
set_option maxHeartbeats 2000000 in
theorem tx_hasSeen {g : xe_G} {M : mi_H} {Y : yT} {a c b p vd da n : Nat} {pp : List Nat} {x1 : Int32} {sn : Int32} (hW : WF g Y M) (hY0 : Y.1 a = some (0, [c, b, p, vd])) (hY1 : Y.1 c = some (3, [b, da, n])) (hY2 : Y.1 b = some (1, [da, n])) (hY3 : Y.1 p = some (7, pp)) (hY4 : Y.1 vd = some (10, [])) (hsn : mi_gf M a 0 4 = some (.int sn)) {d : Nat} (hd : 1 ≤ d) : mt (mT g) d 33 [.ref a, .int x1] M (fun v M' => (∃ x : Int32, v = some (.int x) ∧ (x = 0 ∧ ((sn >>> (x1 &&& 31)) &&& 1) = 0 ∨ x = 1)) ∧ M' = M) := by
  obtain ⟨d, rfl⟩ : ∃ e, d = e + 1 := ⟨d - 1, by omega⟩
  have hS : st g Y M M := st.rf hW
  refine mt_in (b := mb_33 g) rfl rfl ?_
  show ml (mT g) d (mb_33 g).2 (0, [(0, .ref a), (1, .int x1)], [], M) _
  refine ml_st (S' := (1, [(0, .ref a), (1, .int x1)], [.ref a], M)) rfl rfl rfl ?_
  refine ml_get (S' := (4, [(0, .ref a), (1, .int x1)], [.int sn], M)) rfl hsn rfl ?_
  refine ml_blk 3 (S' := (7, [(0, .ref a), (1, .int x1)], [.int 1, .int (sn >>> (x1 &&& 31))], M)) rfl ?_
  refine ml_st (S' := (8, [(0, .ref a), (1, .int x1)], [.int ((sn >>> (x1 &&& 31)) &&& 1)], M)) rfl rfl rfl ?_
  refine ml_if (S1 := (15, [(0, .ref a), (1, .int x1)], [], M)) (S2 := (11, [(0, .ref a), (1, .int x1)], [], M)) rfl rfl rfl (fun c_8 => ?_) (fun c_8 => ?_)
  · have c_8 : ((sn >>> (x1 &&& 31)) &&& 1) = 0 := of_decide_eq_true c_8
    refine ml_st (S' := (16, [], [.int 0], M)) rfl rfl rfl ?_
    exact ml_ret rfl (r_z (Or.inl rfl)) (⟨⟨_, rfl, Or.inl ⟨rfl, c_8⟩⟩, rfl⟩)
  · have c_8 : ¬ (((sn >>> (x1 &&& 31)) &&& 1) = 0) := of_decide_eq_false c_8
    refine ml_st (S' := (12, [(0, .ref a), (1, .int x1)], [.int 1], M)) rfl rfl rfl ?_
    refine ml_st (S' := (16, [], [.int 1], M)) rfl rfl rfl ?_
    exact ml_ret rfl (r_z (Or.inr rfl)) (⟨⟨_, rfl, Or.inr rfl⟩, rfl⟩)
set_option maxHeartbeats 2000000 in
theorem tx_behind {g : xe_G} {M : mi_H} {Y : yT} {a c b p vd da n : Nat} {pp : List Nat} {x1 : Int32}  (hW : WF g Y M) (hY0 : Y.1 a = some (0, [c, b, p, vd])) (hY1 : Y.1 c = some (3, [b, da, n])) (hY2 : Y.1 b = some (1, [da, n])) (hY3 : Y.1 p = some (7, pp)) (hY4 : Y.1 vd = some (10, [])) {d : Nat} (hd : 2 ≤ d) : mt (mT g) d 23 [.ref a, .int x1] M (fun v M' => v = some (.int ((x1 + 6) + (sp_u4 n (Y.2 da) (x1 + 2)))) ∧ M' = M) := by
  obtain ⟨d, rfl⟩ : ∃ e, d = e + 1 := ⟨d - 1, by omega⟩
  have hS : st g Y M M := st.rf hW
  refine mt_in (b := mb_23 g) rfl rfl ?_
  show ml (mT g) d (mb_23 g).2 (0, [(0, .ref a), (1, .int x1)], [], M) _
  refine ml_blk 3 (S' := (4, [(0, .ref a), (1, .int x1)], [.int (x1 + 6)], M)) rfl ?_
  refine ml_st (S' := (5, [(0, .ref a), (1, .int x1)], [.ref a, .int (x1 + 6)], M)) rfl rfl rfl ?_
  refine tg_ref (S' := (8, [(0, .ref a), (1, .int x1)], [.ref b, .int (x1 + 6)], M)) rfl hS.1 hY0 (by decide) rfl rfl ?_
  refine ml_blk 3 (S' := (11, [(0, .ref a), (1, .int x1)], [.int (x1 + 2), .ref b, .int (x1 + 6)], M)) rfl ?_
  refine ml_call (a := [.ref b, .int (x1 + 2)]) (rest := [.int (x1 + 6)]) rfl (okc_t rfl rfl rfl hS.1 hY2 (by decide)) rfl rfl (ct_u4 (hS.1.bytes hY2).1 (by omega)) (fun v1 M2 h3 => ?_)
  obtain ⟨rfl, h3⟩ := h3
  rw [h3]
  show ml _ _ _ (14, [(0, .ref a), (1, .int x1)], [.int (sp_u4 n (Y.2 da) (x1 + 2)), .int (x1 + 6)], M) _
  refine ml_st (S' := (15, [(0, .ref a), (1, .int x1)], [.int ((x1 + 6) + (sp_u4 n (Y.2 da) (x1 + 2)))], M)) rfl rfl rfl ?_
  exact ml_ret rfl (rfl) (⟨rfl, rfl⟩)
set_option maxHeartbeats 2000000 in
theorem tx_isNew {g : xe_G} {M : mi_H} {Y : yT} {a c b p vd da n : Nat} {pp : List Nat} {x1 x2 : Int32} {sn : Int32} (hW : WF g Y M) (hY0 : Y.1 a = some (0, [c, b, p, vd])) (hY1 : Y.1 c = some (3, [b, da, n])) (hY2 : Y.1 b = some (1, [da, n])) (hY3 : Y.1 p = some (7, pp)) (hY4 : Y.1 vd = some (10, [])) (hsn : mi_gf M a 0 4 = some (.int sn)) {d : Nat} (hd : 2 ≤ d) : mt (mT g) d 36 [.ref a, .int x1, .int x2] M (fun v M' => (∃ x : Int32, v = some (.int x) ∧ (x = 0 ∨ x = 1 ∧ ∃ s1, mi_gf M' a 0 4 = some (.int s1) ∧ (b2 sn → b2 s1) ∧ (x2 = 2 → ¬ b2 sn ∧ b2 s1))) ∧ sf g Y [a, vd] M M') := by
  obtain ⟨d, rfl⟩ : ∃ e, d = e + 1 := ⟨d - 1, by omega⟩
  have hS : sf g Y [a, vd] M M := sf.rf hW
  refine mt_in (b := mb_36 g) rfl rfl ?_
  show ml (mT g) d (mb_36 g).2 (0, [(0, .ref a), (1, .int x1), (2, .int x2)], [], M) _
  refine ml_st (S' := (1, [(0, .ref a), (1, .int x1), (2, .int x2)], [.ref a], M)) rfl rfl rfl ?_
  refine tg_ref (S' := (4, [(0, .ref a), (1, .int x1), (2, .int x2)], [.ref p], M)) rfl hS.1.1 hY0 (by decide) rfl rfl ?_
  refine ml_st (S' := (5, [(0, .ref a), (1, .int x1), (2, .int x2)], [.ref a, .ref p], M)) rfl rfl rfl ?_
  refine tg_ref (S' := (8, [(0, .ref a), (1, .int x1), (2, .int x2)], [.ref b, .ref p], M)) rfl hS.1.1 hY0 (by decide) rfl rfl ?_
  refine ml_st (S' := (9, [(0, .ref a), (1, .int x1), (2, .int x2)], [.int x1, .ref b, .ref p], M)) rfl rfl rfl ?_
  refine ml_call (a := [.ref b, .int x1]) (rest := [.ref p]) rfl (okc_t rfl rfl rfl hS.1.1 hY2 (by decide)) rfl rfl (tq_u2 hS.1.1 hY2 (by omega)) (fun v1 M2 h3 => ?_)
  obtain ⟨⟨u4, rfl⟩, h3⟩ := h3
  rw [h3]
  show ml _ _ _ (12, [(0, .ref a), (1, .int x1), (2, .int x2)], [.int u4, .ref p], M) _
  refine ml_call (a := [.ref p, .int u4]) (rest := []) rfl (okc_t rfl rfl rfl hS.1.1 hY3 (by decide)) rfl rfl (tq_tagOf hS.1.1 hY3 (by omega)) (fun v5 M6 h7 => ?_)
  obtain ⟨⟨u8, rfl⟩, h7⟩ := h7
  rw [h7]
  show ml _ _ _ (15, [(0, .ref a), (1, .int x1), (2, .int x2)], [.int u8], M) _
  refine ml_st (S' := (16, [(0, .ref a), (1, .int x1), (2, .int x2)], [.int 1, .int u8], M)) rfl rfl rfl ?_
  refine ml_if2 (S1 := (30, [(0, .ref a), (1, .int x1), (2, .int x2)], [], M)) (S2 := (19, [(0, .ref a), (1, .int x1), (2, .int x2)], [], M)) rfl rfl rfl (fun c_16 => ?_) (fun c_16 => ?_)
  · have c_16 : u8 = 1 := of_decide_eq_true c_16
    refine ml_st (S' := (31, [(0, .ref a), (1, .int x1), (2, .int x2)], [.int x2], M)) rfl rfl rfl ?_
    refine ml_if (S1 := (36, [(0, .ref a), (1, .int x1), (2, .int x2)], [], M)) (S2 := (34, [(0, .ref a), (1, .int x1), (2, .int x2)], [], M)) rfl rfl rfl (fun c_31 => ?_) (fun c_31 => ?_)
    · have c_31 : ¬ x2 = 0 := of_decide_eq_true c_31
      refine ml_blk 2 (S' := (38, [(0, .ref a), (1, .int x1), (2, .int x2)], [.int x2, .ref a], M)) rfl ?_
      refine ml_call (a := [.ref a, .int x2]) (rest := []) rfl (okc_t rfl rfl rfl hS.1.1 hY0 (by decide)) rfl rfl (tx_hasSeen hS.1.1 hY0 hY1 hY2 hY3 hY4 hsn (by omega)) (fun v9 M10 h11 => ?_)
      obtain ⟨⟨u12, rfl, z13⟩, h11⟩ := h11
      rw [h11]
      show ml _ _ _ (41, [(0, .ref a), (1, .int x1), (2, .int x2)], [.int u12], M) _
      refine ml_if (S1 := (55, [(0, .ref a), (1, .int x1), (2, .int x2)], [], M)) (S2 := (44, [(0, .ref a), (1, .int x1), (2, .int x2)], [], M)) rfl rfl rfl (fun c_41 => ?_) (fun c_41 => ?_)
      · have c_41 : u12 = 0 := of_decide_eq_true c_41
        refine ml_blk 2 (S' := (57, [(0, .ref a), (1, .int x1), (2, .int x2)], [.ref a, .ref a], M)) rfl ?_
        refine ml_get (S' := (60, [(0, .ref a), (1, .int x1), (2, .int x2)], [.int sn, .ref a], M)) rfl hsn rfl ?_
        refine ml_blk 3 (S' := (63, [(0, .ref a), (1, .int x1), (2, .int x2)], [.int (1 <<< (x2 &&& 31)), .int sn, .ref a], M)) rfl ?_
        refine ml_st (S' := (64, [(0, .ref a), (1, .int x1), (2, .int x2)], [.int (sn ||| (1 <<< (x2 &&& 31))), .ref a], M)) rfl rfl rfl ?_
        refine tp_put rfl hS.1 hY0 (by decide) rfl (⟨_, rfl⟩) rfl rfl (fun M14 hS15 f16 => ?_)
        have hS17 := hS.put hS15 f16 (by simp)
        show ml _ _ _ (67, [(0, .ref a), (1, .int x1), (2, .int x2)], [], M14) _
        refine ml_st (S' := (68, [(0, .ref a), (1, .int x1), (2, .int x2)], [.int 1], M14)) rfl rfl rfl ?_
        exact ml_ret rfl (r_z (Or.inr rfl)) (⟨⟨_, rfl, Or.inr ⟨rfl, _, f16.2.2.1, b2_or, fun e => ⟨fun q => q (by have hz := (z13.resolve_right (fun q => absurd (q.symm.trans c_41) (by decide))).2; rw [e] at hz; exact hz), b2_two e⟩⟩⟩, hS17⟩)
      · have c_41 : ¬ (u12 = 0) := of_decide_eq_false c_41
        refine ml_st (S' := (45, [(0, .ref a), (1, .int x1), (2, .int x2)], [.ref a], M)) rfl rfl rfl ?_
        refine tg_ref (S' := (48, [(0, .ref a), (1, .int x1), (2, .int x2)], [.ref vd], M)) rfl hS.1.1 hY0 (by decide) rfl rfl ?_
        refine ml_blk 2 (S' := (51, [(0, .ref a), (1, .int x1), (2, .int x2)], [.int x1, .int 29, .ref vd], M)) rfl ?_
        refine ml_call (a := [.ref vd, .int 29, .int x1]) (rest := []) rfl (okc_t rfl rfl rfl hS.1.1 hY4 (by decide)) rfl rfl (tw_Ve_wrong hS.1.1 hY4 (by omega)) (fun v18 M19 h20 => ?_)
        obtain ⟨rfl, h20⟩ := h20
        have g22 := h20.2.gf (nin_cons (ykne hY0 hY4 (by decide)) nin_nil) hsn
        have hS23 := hS.tr h20 (by simp)
        show ml _ _ _ (54, [(0, .ref a), (1, .int x1), (2, .int x2)], [.int 0], M19) _
        exact ml_ret rfl (r_z (Or.inl rfl)) (⟨⟨_, rfl, Or.inl rfl⟩, hS23⟩)
    · have c_31 : ¬ (¬ x2 = 0) := of_decide_eq_false c_31
      refine ml_st (S' := (35, [(0, .ref a), (1, .int x1), (2, .int x2)], [.int 1], M)) rfl rfl rfl ?_
      exact ml_ret rfl (r_z (Or.inr rfl)) (⟨⟨_, rfl, Or.inr ⟨rfl, _, hsn, id, fun e => absurd (e.symm.trans (Decidable.not_not.mp c_31)) (by decide)⟩⟩, hS⟩)
  · have c_16 : ¬ (u8 = 1) := of_decide_eq_false c_16
    refine ml_st (S' := (20, [(0, .ref a), (1, .int x1), (2, .int x2)], [.ref a], M)) rfl rfl rfl ?_
    refine tg_ref (S' := (23, [(0, .ref a), (1, .int x1), (2, .int x2)], [.ref vd], M)) rfl hS.1.1 hY0 (by decide) rfl rfl ?_
    refine ml_blk 2 (S' := (26, [(0, .ref a), (1, .int x1), (2, .int x2)], [.int x1, .int 28, .ref vd], M)) rfl ?_
    refine ml_call (a := [.ref vd, .int 28, .int x1]) (rest := []) rfl (okc_t rfl rfl rfl hS.1.1 hY4 (by decide)) rfl rfl (tw_Ve_wrong hS.1.1 hY4 (by omega)) (fun v24 M25 h26 => ?_)
    obtain ⟨rfl, h26⟩ := h26
    have g28 := h26.2.gf (nin_cons (ykne hY0 hY4 (by decide)) nin_nil) hsn
    have hS29 := hS.tr h26 (by simp)
    show ml _ _ _ (29, [(0, .ref a), (1, .int x1), (2, .int x2)], [.int 0], M25) _
    exact ml_ret rfl (r_z (Or.inl rfl)) (⟨⟨_, rfl, Or.inl rfl⟩, hS29⟩)
set_option maxHeartbeats 2000000 in
theorem tx_codeAttributesHold {g : xe_G} {M : mi_H} {Y : yT} {a c b p vd da n : Nat} {pp : List Nat} {x1 : Int32} {sn : Int32} (hW : WF g Y M) (hY0 : Y.1 a = some (0, [c, b, p, vd])) (hY1 : Y.1 c = some (3, [b, da, n])) (hY2 : Y.1 b = some (1, [da, n])) (hY3 : Y.1 p = some (7, pp)) (hY4 : Y.1 vd = some (10, [])) (hsn : mi_gf M a 0 4 = some (.int sn)) {d : Nat} (hd : 3 ≤ d) : mt (mT g) d 28 [.ref a, .int x1] M (fun v M' => (∃ x : Int32, v = some (.int x) ∧ (x = 0 ∨ x = 1 ∧ ∃ s1, mi_gf M' a 0 4 = some (.int s1) ∧ (b2 sn → b2 s1))) ∧ sf g Y [a, vd] M M') := by
  obtain ⟨d, rfl⟩ : ∃ e, d = e + 1 := ⟨d - 1, by omega⟩
  have hS : sf g Y [a, vd] M M := sf.rf hW
  refine mt_in (b := mb_28 g) rfl rfl ?_
  show ml (mT g) d (mb_28 g).2 (0, [(0, .ref a), (1, .int x1)], [], M) _
  refine ml_st (S' := (1, [(0, .ref a), (1, .int x1)], [.ref a], M)) rfl rfl rfl ?_
  refine tg_ref (S' := (4, [(0, .ref a), (1, .int x1)], [.ref b], M)) rfl hS.1.1 hY0 (by decide) rfl rfl ?_
  refine ml_st (S' := (5, [(0, .ref a), (1, .int x1)], [.int x1, .ref b], M)) rfl rfl rfl ?_
  refine ml_call (a := [.ref b, .int x1]) (rest := []) rfl (okc_t rfl rfl rfl hS.1.1 hY2 (by decide)) rfl rfl (tq_u2 hS.1.1 hY2 (by omega)) (fun v1 M2 h3 => ?_)
  obtain ⟨⟨u4, rfl⟩, h3⟩ := h3
  rw [h3]
  show ml _ _ _ (8, [(0, .ref a), (1, .int x1)], [.int u4], M) _
  refine ml_st (S' := (9, [(2, .int u4), (0, .ref a), (1, .int x1)], [], M)) rfl rfl rfl ?_
  refine ml_blk 3 (S' := (12, [(2, .int u4), (0, .ref a), (1, .int x1)], [.int (x1 + 2)], M)) rfl ?_
  refine ml_st (S' := (13, [(3, .int (x1 + 2)), (2, .int u4), (0, .ref a), (1, .int x1)], [], M)) rfl rfl rfl ?_
  refine ml_st (S' := (14, [(3, .int (x1 + 2)), (2, .int u4), (0, .ref a), (1, .int x1)], [.int 0], M)) rfl rfl rfl ?_
  refine ml_st (S' := (16, [(0, .ref a), (2, .int u4), (3, .int (x1 + 2)), (4, .int 0)], [], M)) rfl rfl rfl ?_
  have L_16 : ∀ (n_16 : Nat) (i16_3 : Int32) (i16_4 : Int32) (sq : Int32) (M_16 : mi_H), (2147483648 - i16_4.toInt).toNat ≤ n_16 → (mi_gf M_16 a 0 4 = some (.int sq) ∧ (b2 sn → b2 sq)) → sf g Y [a, vd] M M_16 → ml (mT g) d (mb_28 g).2 (16, [(0, .ref a), (2, .int u4), (3, .int i16_3), (4, .int i16_4)], [], M_16) (fun v M' => (∃ x : Int32, v = some (.int x) ∧ (x = 0 ∨ x = 1 ∧ ∃ s1, mi_gf M' a 0 4 = some (.int s1) ∧ (b2 sn → b2 s1))) ∧ sf g Y [a, vd] M M') := by
    intro n_16
    induction n_16 with
    | zero => intro i16_3 i16_4 sq M_16 hn; exact (loop_zero hn).elim
    | succ n_16 ih_16 =>
      intro i16_3 i16_4 sq M_16 hn_16 hi_16 hS_16
      refine ml_blk 2 (S' := (19, [(0, .ref a), (2, .int u4), (3, .int i16_3), (4, .int i16_4)], [.int u4, .int i16_4], M_16)) rfl ?_
      refine ml_if2 (S1 := (93, [(0, .ref a), (2, .int u4), (3, .int i16_3), (4, .int i16_4)], [], M_16)) (S2 := (22, [(0, .ref a), (2, .int u4), (3, .int i16_3), (4, .int i16_4)], [], M_16)) rfl rfl rfl (fun c_19 => ?_) (fun c_19 => ?_)
      · have c_19 : u4 ≤ i16_4 := of_decide_eq_true c_19
        refine ml_st (S' := (94, [(0, .ref a), (2, .int u4), (3, .int i16_3), (4, .int i16_4)], [.int 1], M_16)) rfl rfl rfl ?_
        exact ml_ret rfl (r_z (Or.inr rfl)) (⟨⟨_, rfl, Or.inr ⟨rfl, _, hi_16.1, hi_16.2⟩⟩, hS_16⟩)
      · have c_19 : ¬ (u4 ≤ i16_4) := of_decide_eq_false c_19
        refine ml_st (S' := (23, [(0, .ref a), (2, .int u4), (3, .int i16_3), (4, .int i16_4)], [.ref a], M_16)) rfl rfl rfl ?_
        refine tg_ref (S' := (26, [(0, .ref a), (2, .int u4), (3, .int i16_3), (4, .int i16_4)], [.ref c], M_16)) rfl hS_16.1.1 hY0 (by decide) rfl rfl ?_
        refine tg_int rfl hS_16.1.1 hY1 (by decide) rfl (fun u5 g6 => ?_)
        show ml _ _ _ (29, [(0, .ref a), (2, .int u4), (3, .int i16_3), (4, .int i16_4)], [.int u5], M_16) _
        refine ml_st (S' := (31, [(0, .ref a), (2, .int u4), (3, .int i16_3), (4, .int i16_4)], [.int 50, .int u5], M_16)) rfl rfl rfl ?_
        have J_59 : ∀ (s59_0 : Int32), ml (mT g) d (mb_28 g).2 (59, [(0, .ref a), (2, .int u4), (3, .int i16_3), (4, .int i16_4)], [.int s59_0], M_16) (fun v M' => (∃ x : Int32, v = some (.int x) ∧ (x = 0 ∨ x = 1 ∧ ∃ s1, mi_gf M' a 0 4 = some (.int s1) ∧ (b2 sn → b2 s1))) ∧ sf g Y [a, vd] M M') := by
          intro s59_0
          refine ml_st (S' := (61, [(5, .int s59_0), (0, .ref a), (2, .int u4), (3, .int i16_3), (4, .int i16_4)], [], M_16)) rfl rfl rfl ?_
          refine ml_blk 3 (S' := (65, [(5, .int s59_0), (0, .ref a), (2, .int u4), (3, .int i16_3), (4, .int i16_4)], [.int s59_0, .int i16_3, .ref a], M_16)) rfl ?_
          refine ml_if (S1 := (72, [(5, .int s59_0), (0, .ref a), (2, .int u4), (3, .int i16_3), (4, .int i16_4)], [.int i16_3, .ref a], M_16)) (S2 := (68, [(5, .int s59_0), (0, .ref a), (2, .int u4), (3, .int i16_3), (4, .int i16_4)], [.int i16_3, .ref a], M_16)) rfl rfl rfl (fun c_65 => ?_) (fun c_65 => ?_)
          · have c_65 : s59_0 = 0 := of_decide_eq_true c_65
            refine ml_st (S' := (73, [(0, .ref a), (2, .int u4), (3, .int i16_3), (4, .int i16_4)], [.int 0, .int i16_3, .ref a], M_16)) rfl rfl rfl ?_
            refine ml_call (a := [.ref a, .int i16_3, .int 0]) (rest := []) rfl (okc_t rfl rfl rfl hS_16.1.1 hY0 (by decide)) rfl rfl (tx_isNew hS_16.1.1 hY0 hY1 hY2 hY3 hY4 hi_16.1 (by omega)) (fun v7 M8 h9 => ?_)
            obtain ⟨⟨u10, rfl, z11⟩, h9⟩ := h9
            have hS12 := hS_16.tr h9 (by simp)
            show ml _ _ _ (76, [(0, .ref a), (2, .int u4), (3, .int i16_3), (4, .int i16_4)], [.int u10], M8) _
            refine ml_if (S1 := (81, [(0, .ref a), (2, .int u4), (3, .int i16_3), (4, .int i16_4)], [], M8)) (S2 := (79, [(0, .ref a), (2, .int u4), (3, .int i16_3), (4, .int i16_4)], [], M8)) rfl rfl rfl (fun c_76 => ?_) (fun c_76 => ?_)
            · have c_76 : ¬ u10 = 0 := of_decide_eq_true c_76
              obtain ⟨-, s13, h14, h15, -⟩ := z11.resolve_left c_76
              refine ml_blk 2 (S' := (83, [(0, .ref a), (2, .int u4), (3, .int i16_3), (4, .int i16_4)], [.int i16_3, .ref a], M8)) rfl ?_
              refine ml_call (a := [.ref a, .int i16_3]) (rest := []) rfl (okc_t rfl rfl rfl hS12.1.1 hY0 (by decide)) rfl rfl (tx_behind hS12.1.1 hY0 hY1 hY2 hY3 hY4 (by omega)) (fun v16 M17 h18 => ?_)
              obtain ⟨rfl, h18⟩ := h18
              rw [h18]
              show ml _ _ _ (86, [(0, .ref a), (2, .int u4), (3, .int i16_3), (4, .int i16_4)], [.int ((i16_3 + 6) + (sp_u4 n (Y.2 da) (i16_3 + 2)))], M8) _
              refine ml_st (S' := (87, [(3, .int ((i16_3 + 6) + (sp_u4 n (Y.2 da) (i16_3 + 2)))), (0, .ref a), (2, .int u4), (4, .int i16_4)], [], M8)) rfl rfl rfl ?_
              refine ml_st (S' := (90, [(4, .int (i16_4 + 1)), (3, .int ((i16_3 + 6) + (sp_u4 n (Y.2 da) (i16_3 + 2)))), (0, .ref a), (2, .int u4)], [], M8)) rfl rfl rfl ?_
              refine ml_st (S' := (16, [(0, .ref a), (2, .int u4), (3, .int ((i16_3 + 6) + (sp_u4 n (Y.2 da) (i16_3 + 2)))), (4, .int (i16_4 + 1))], [], M8)) rfl rfl rfl ?_
              exact ih_16 ((i16_3 + 6) + (sp_u4 n (Y.2 da) (i16_3 + 2))) (i16_4 + 1) s13 _ (loop_inc (Int32.not_le.mp c_19) hn_16) (⟨h14, fun q => h15 (hi_16.2 q)⟩) hS12
            · have c_76 : ¬ (¬ u10 = 0) := of_decide_eq_false c_76
              refine ml_st (S' := (80, [(0, .ref a), (2, .int u4), (3, .int i16_3), (4, .int i16_4)], [.int 0], M8)) rfl rfl rfl ?_
              exact ml_ret rfl (r_z (Or.inl rfl)) (⟨⟨_, rfl, Or.inl rfl⟩, hS12⟩)
          · have c_65 : ¬ (s59_0 = 0) := of_decide_eq_false c_65
            refine ml_st (S' := (69, [(5, .int s59_0), (0, .ref a), (2, .int u4), (3, .int i16_3), (4, .int i16_4)], [.int 4, .int i16_3, .ref a], M_16)) rfl rfl rfl ?_
            refine ml_st (S' := (73, [(0, .ref a), (2, .int u4), (3, .int i16_3), (4, .int i16_4)], [.int 4, .int i16_3, .ref a], M_16)) rfl rfl rfl ?_
            refine ml_call (a := [.ref a, .int i16_3, .int 4]) (rest := []) rfl (okc_t rfl rfl rfl hS_16.1.1 hY0 (by decide)) rfl rfl (tx_isNew hS_16.1.1 hY0 hY1 hY2 hY3 hY4 hi_16.1 (by omega)) (fun v20 M21 h22 => ?_)
            obtain ⟨⟨u23, rfl, z24⟩, h22⟩ := h22
            have hS25 := hS_16.tr h22 (by simp)
            show ml _ _ _ (76, [(0, .ref a), (2, .int u4), (3, .int i16_3), (4, .int i16_4)], [.int u23], M21) _
            refine ml_if (S1 := (81, [(0, .ref a), (2, .int u4), (3, .int i16_3), (4, .int i16_4)], [], M21)) (S2 := (79, [(0, .ref a), (2, .int u4), (3, .int i16_3), (4, .int i16_4)], [], M21)) rfl rfl rfl (fun c_76 => ?_) (fun c_76 => ?_)
            · have c_76 : ¬ u23 = 0 := of_decide_eq_true c_76
              obtain ⟨-, s26, h27, h28, -⟩ := z24.resolve_left c_76
              refine ml_blk 2 (S' := (83, [(0, .ref a), (2, .int u4), (3, .int i16_3), (4, .int i16_4)], [.int i16_3, .ref a], M21)) rfl ?_
              refine ml_call (a := [.ref a, .int i16_3]) (rest := []) rfl (okc_t rfl rfl rfl hS25.1.1 hY0 (by decide)) rfl rfl (tx_behind hS25.1.1 hY0 hY1 hY2 hY3 hY4 (by omega)) (fun v29 M30 h31 => ?_)
              obtain ⟨rfl, h31⟩ := h31
              rw [h31]
              show ml _ _ _ (86, [(0, .ref a), (2, .int u4), (3, .int i16_3), (4, .int i16_4)], [.int ((i16_3 + 6) + (sp_u4 n (Y.2 da) (i16_3 + 2)))], M21) _
              refine ml_st (S' := (87, [(3, .int ((i16_3 + 6) + (sp_u4 n (Y.2 da) (i16_3 + 2)))), (0, .ref a), (2, .int u4), (4, .int i16_4)], [], M21)) rfl rfl rfl ?_
              refine ml_st (S' := (90, [(4, .int (i16_4 + 1)), (3, .int ((i16_3 + 6) + (sp_u4 n (Y.2 da) (i16_3 + 2)))), (0, .ref a), (2, .int u4)], [], M21)) rfl rfl rfl ?_
              refine ml_st (S' := (16, [(0, .ref a), (2, .int u4), (3, .int ((i16_3 + 6) + (sp_u4 n (Y.2 da) (i16_3 + 2)))), (4, .int (i16_4 + 1))], [], M21)) rfl rfl rfl ?_
              exact ih_16 ((i16_3 + 6) + (sp_u4 n (Y.2 da) (i16_3 + 2))) (i16_4 + 1) s26 _ (loop_inc (Int32.not_le.mp c_19) hn_16) (⟨h27, fun q => h28 (hi_16.2 q)⟩) hS25
            · have c_76 : ¬ (¬ u23 = 0) := of_decide_eq_false c_76
              refine ml_st (S' := (80, [(0, .ref a), (2, .int u4), (3, .int i16_3), (4, .int i16_4)], [.int 0], M21)) rfl rfl rfl ?_
              exact ml_ret rfl (r_z (Or.inl rfl)) (⟨⟨_, rfl, Or.inl rfl⟩, hS25⟩)
        have J_58 : ml (mT g) d (mb_28 g).2 (58, [(0, .ref a), (2, .int u4), (3, .int i16_3), (4, .int i16_4)], [], M_16) (fun v M' => (∃ x : Int32, v = some (.int x) ∧ (x = 0 ∨ x = 1 ∧ ∃ s1, mi_gf M' a 0 4 = some (.int s1) ∧ (b2 sn → b2 s1))) ∧ sf g Y [a, vd] M M') := by
          refine ml_st (S' := (59, [(0, .ref a), (2, .int u4), (3, .int i16_3), (4, .int i16_4)], [.int 0], M_16)) rfl rfl rfl ?_
          exact J_59 0
        refine ml_if2 (S1 := (58, [(0, .ref a), (2, .int u4), (3, .int i16_3), (4, .int i16_4)], [], M_16)) (S2 := (34, [(0, .ref a), (2, .int u4), (3, .int i16_3), (4, .int i16_4)], [], M_16)) rfl rfl rfl (fun c_31 => ?_) (fun c_31 => ?_)
        · have c_31 : u5 < 50 := of_decide_eq_true c_31
          exact J_58 
        · have c_31 : ¬ (u5 < 50) := of_decide_eq_false c_31
          refine ml_st (S' := (35, [(0, .ref a), (2, .int u4), (3, .int i16_3), (4, .int i16_4)], [.ref a], M_16)) rfl rfl rfl ?_
          refine tg_ref (S' := (38, [(0, .ref a), (2, .int u4), (3, .int i16_3), (4, .int i16_4)], [.ref p], M_16)) rfl hS_16.1.1 hY0 (by decide) rfl rfl ?_
          refine ml_st (S' := (39, [(0, .ref a), (2, .int u4), (3, .int i16_3), (4, .int i16_4)], [.ref a, .ref p], M_16)) rfl rfl rfl ?_
          refine tg_ref (S' := (42, [(0, .ref a), (2, .int u4), (3, .int i16_3), (4, .int i16_4)], [.ref b, .ref p], M_16)) rfl hS_16.1.1 hY0 (by decide) rfl rfl ?_
          refine ml_st (S' := (43, [(0, .ref a), (2, .int u4), (3, .int i16_3), (4, .int i16_4)], [.int i16_3, .ref b, .ref p], M_16)) rfl rfl rfl ?_
          refine ml_call (a := [.ref b, .int i16_3]) (rest := [.ref p]) rfl (okc_t rfl rfl rfl hS_16.1.1 hY2 (by decide)) rfl rfl (tq_u2 hS_16.1.1 hY2 (by omega)) (fun v33 M34 h35 => ?_)
          obtain ⟨⟨u36, rfl⟩, h35⟩ := h35
          rw [h35]
          show ml _ _ _ (46, [(0, .ref a), (2, .int u4), (3, .int i16_3), (4, .int i16_4)], [.int u36, .ref p], M_16) _
          refine ml_st (S' := (48, [(0, .ref a), (2, .int u4), (3, .int i16_3), (4, .int i16_4)], [.ref (g.2.1 10), .int u36, .ref p], M_16)) rfl rfl rfl ?_
          refine ml_call (a := [.ref p, .int u36, .ref (g.2.1 10)]) (rest := []) rfl (okc_t rfl rfl rfl hS_16.1.1 hY3 (by decide)) rfl rfl (tq_textIs (lk := 10) hS_16.1.1 hY3 (by decide) (by omega)) (fun v37 M38 h39 => ?_)
          obtain ⟨⟨x40, rfl, z41⟩, h39⟩ := h39
          rw [h39]
          show ml _ _ _ (51, [(0, .ref a), (2, .int u4), (3, .int i16_3), (4, .int i16_4)], [.int x40], M_16) _
          refine ml_if (S1 := (58, [(0, .ref a), (2, .int u4), (3, .int i16_3), (4, .int i16_4)], [], M_16)) (S2 := (54, [(0, .ref a), (2, .int u4), (3, .int i16_3), (4, .int i16_4)], [], M_16)) rfl rfl rfl (fun c_51 => ?_) (fun c_51 => ?_)
          · have c_51 : x40 = 0 := of_decide_eq_true c_51
            exact J_58 
          · have c_51 : ¬ (x40 = 0) := of_decide_eq_false c_51
            refine ml_st (S' := (55, [(0, .ref a), (2, .int u4), (3, .int i16_3), (4, .int i16_4)], [.int 1], M_16)) rfl rfl rfl ?_
            refine ml_st (S' := (59, [(0, .ref a), (2, .int u4), (3, .int i16_3), (4, .int i16_4)], [.int 1], M_16)) rfl rfl rfl ?_
            exact J_59 1
  exact L_16 _ (x1 + 2) 0 sn _ (Nat.le_refl _) (⟨hsn, id⟩) hS
set_option maxHeartbeats 2000000 in
theorem tx_codeEnd {g : xe_G} {M : mi_H} {Y : yT} {a c b p vd da n : Nat} {pp : List Nat} {x1 x2 : Int32}  (hW : WF g Y M) (hY0 : Y.1 a = some (0, [c, b, p, vd])) (hY1 : Y.1 c = some (3, [b, da, n])) (hY2 : Y.1 b = some (1, [da, n])) (hY3 : Y.1 p = some (7, pp)) (hY4 : Y.1 vd = some (10, [])) {d : Nat} (hd : 3 ≤ d) : mt (mT g) d 29 [.ref a, .int x1, .int x2] M (fun v M' => (∃ x : Int32, v = some (.int x) ∧ (x = -1 ∨ 0 ≤ (sp_u4 n (Y.2 da) (x1 + 4)).toInt ∧ (sp_u4 n (Y.2 da) (x1 + 4)) ≤ x2 - x1 - 8)) ∧ M' = M) := by
  obtain ⟨d, rfl⟩ : ∃ e, d = e + 1 := ⟨d - 1, by omega⟩
  have hS : st g Y M M := st.rf hW
  refine mt_in (b := mb_29 g) rfl rfl ?_
  show ml (mT g) d (mb_29 g).2 (0, [(0, .ref a), (1, .int x1), (2, .int x2)], [], M) _
  refine ml_blk 3 (S' := (3, [(0, .ref a), (1, .int x1), (2, .int x2)], [.int (x2 - x1)], M)) rfl ?_
  refine ml_st (S' := (5, [(0, .ref a), (1, .int x1), (2, .int x2)], [.int 8, .int (x2 - x1)], M)) rfl rfl rfl ?_
  refine ml_if2 (S1 := (10, [(0, .ref a), (1, .int x1), (2, .int x2)], [], M)) (S2 := (8, [(0, .ref a), (1, .int x1), (2, .int x2)], [], M)) rfl rfl rfl (fun c_5 => ?_) (fun c_5 => ?_)
  · have c_5 : 8 ≤ (x2 - x1) := of_decide_eq_true c_5
    refine ml_st (S' := (11, [(0, .ref a), (1, .int x1), (2, .int x2)], [.ref a], M)) rfl rfl rfl ?_
    refine tg_ref (S' := (14, [(0, .ref a), (1, .int x1), (2, .int x2)], [.ref b], M)) rfl hS.1 hY0 (by decide) rfl rfl ?_
    refine ml_blk 3 (S' := (17, [(0, .ref a), (1, .int x1), (2, .int x2)], [.int (x1 + 4), .ref b], M)) rfl ?_
    refine ml_call (a := [.ref b, .int (x1 + 4)]) (rest := []) rfl (okc_t rfl rfl rfl hS.1 hY2 (by decide)) rfl rfl (ct_u4 (hS.1.bytes hY2).1 (by omega)) (fun v1 M2 h3 => ?_)
    obtain ⟨rfl, h3⟩ := h3
    rw [h3]
    show ml _ _ _ (20, [(0, .ref a), (1, .int x1), (2, .int x2)], [.int (sp_u4 n (Y.2 da) (x1 + 4))], M) _
    refine ml_st (S' := (21, [(3, .int (sp_u4 n (Y.2 da) (x1 + 4))), (0, .ref a), (1, .int x1), (2, .int x2)], [], M)) rfl rfl rfl ?_
    refine ml_st (S' := (22, [(3, .int (sp_u4 n (Y.2 da) (x1 + 4))), (0, .ref a), (1, .int x1), (2, .int x2)], [.int (sp_u4 n (Y.2 da) (x1 + 4))], M)) rfl rfl rfl ?_
    refine ml_if (S1 := (35, [], [], M)) (S2 := (25, [(3, .int (sp_u4 n (Y.2 da) (x1 + 4))), (0, .ref a), (1, .int x1), (2, .int x2)], [], M)) rfl rfl rfl (fun c_22 => ?_) (fun c_22 => ?_)
    · have c_22 : (sp_u4 n (Y.2 da) (x1 + 4)) < 0 := of_decide_eq_true c_22
      refine ml_st (S' := (36, [], [.int (-1)], M)) rfl rfl rfl ?_
      exact ml_ret rfl (rfl) (⟨⟨_, rfl, Or.inl rfl⟩, rfl⟩)
    · have c_22 : ¬ ((sp_u4 n (Y.2 da) (x1 + 4)) < 0) := of_decide_eq_false c_22
      refine ml_blk 3 (S' := (28, [(3, .int (sp_u4 n (Y.2 da) (x1 + 4))), (0, .ref a), (1, .int x1), (2, .int x2)], [.int x1, .int x2, .int (sp_u4 n (Y.2 da) (x1 + 4))], M)) rfl ?_
      refine ml_blk 3 (S' := (32, [(3, .int (sp_u4 n (Y.2 da) (x1 + 4))), (0, .ref a), (1, .int x1), (2, .int x2)], [.int ((x2 - x1) - 8), .int (sp_u4 n (Y.2 da) (x1 + 4))], M)) rfl ?_
      refine ml_if2 (S1 := (37, [(3, .int (sp_u4 n (Y.2 da) (x1 + 4))), (0, .ref a), (1, .int x1), (2, .int x2)], [], M)) (S2 := (35, [], [], M)) rfl rfl rfl (fun c_32 => ?_) (fun c_32 => ?_)
      · have c_32 : (sp_u4 n (Y.2 da) (x1 + 4)) ≤ ((x2 - x1) - 8) := of_decide_eq_true c_32
        refine ml_blk 3 (S' := (41, [(3, .int (sp_u4 n (Y.2 da) (x1 + 4))), (0, .ref a), (1, .int x1), (2, .int x2)], [.int (x1 + 8)], M)) rfl ?_
        refine ml_blk 2 (S' := (43, [(3, .int (sp_u4 n (Y.2 da) (x1 + 4))), (0, .ref a), (1, .int x1), (2, .int x2)], [.int ((x1 + 8) + (sp_u4 n (Y.2 da) (x1 + 4)))], M)) rfl ?_
        refine ml_st (S' := (45, [(4, .int ((x1 + 8) + (sp_u4 n (Y.2 da) (x1 + 4)))), (3, .int (sp_u4 n (Y.2 da) (x1 + 4))), (0, .ref a), (1, .int x1), (2, .int x2)], [], M)) rfl rfl rfl ?_
        refine ml_blk 3 (S' := (49, [(4, .int ((x1 + 8) + (sp_u4 n (Y.2 da) (x1 + 4)))), (3, .int (sp_u4 n (Y.2 da) (x1 + 4))), (0, .ref a), (1, .int x1), (2, .int x2)], [.int (x2 - ((x1 + 8) + (sp_u4 n (Y.2 da) (x1 + 4))))], M)) rfl ?_
        refine ml_st (S' := (50, [(4, .int ((x1 + 8) + (sp_u4 n (Y.2 da) (x1 + 4)))), (3, .int (sp_u4 n (Y.2 da) (x1 + 4))), (0, .ref a), (1, .int x1), (2, .int x2)], [.int 2, .int (x2 - ((x1 + 8) + (sp_u4 n (Y.2 da) (x1 + 4))))], M)) rfl rfl rfl ?_
        refine ml_if2 (S1 := (74, [], [], M)) (S2 := (53, [(4, .int ((x1 + 8) + (sp_u4 n (Y.2 da) (x1 + 4)))), (3, .int (sp_u4 n (Y.2 da) (x1 + 4))), (0, .ref a), (1, .int x1), (2, .int x2)], [], M)) rfl rfl rfl (fun c_50 => ?_) (fun c_50 => ?_)
        · have c_50 : (x2 - ((x1 + 8) + (sp_u4 n (Y.2 da) (x1 + 4)))) < 2 := of_decide_eq_true c_50
          refine ml_st (S' := (75, [], [.int (-1)], M)) rfl rfl rfl ?_
          exact ml_ret rfl (rfl) (⟨⟨_, rfl, Or.inl rfl⟩, rfl⟩)
        · have c_50 : ¬ ((x2 - ((x1 + 8) + (sp_u4 n (Y.2 da) (x1 + 4)))) < 2) := of_decide_eq_false c_50
          refine ml_blk 3 (S' := (57, [(4, .int ((x1 + 8) + (sp_u4 n (Y.2 da) (x1 + 4)))), (3, .int (sp_u4 n (Y.2 da) (x1 + 4))), (0, .ref a), (1, .int x1), (2, .int x2)], [.int (x2 - ((x1 + 8) + (sp_u4 n (Y.2 da) (x1 + 4))))], M)) rfl ?_
          refine ml_blk 3 (S' := (61, [(4, .int ((x1 + 8) + (sp_u4 n (Y.2 da) (x1 + 4)))), (3, .int (sp_u4 n (Y.2 da) (x1 + 4))), (0, .ref a), (1, .int x1), (2, .int x2)], [.int 8, .int ((x2 - ((x1 + 8) + (sp_u4 n (Y.2 da) (x1 + 4)))) - 2)], M)) rfl ?_
          refine ml_st (S' := (62, [(4, .int ((x1 + 8) + (sp_u4 n (Y.2 da) (x1 + 4)))), (3, .int (sp_u4 n (Y.2 da) (x1 + 4))), (0, .ref a), (1, .int x1), (2, .int x2)], [.ref a, .int 8, .int ((x2 - ((x1 + 8) + (sp_u4 n (Y.2 da) (x1 + 4)))) - 2)], M)) rfl rfl rfl ?_
          refine tg_ref (S' := (65, [(4, .int ((x1 + 8) + (sp_u4 n (Y.2 da) (x1 + 4)))), (3, .int (sp_u4 n (Y.2 da) (x1 + 4))), (0, .ref a), (1, .int x1), (2, .int x2)], [.ref b, .int 8, .int ((x2 - ((x1 + 8) + (sp_u4 n (Y.2 da) (x1 + 4)))) - 2)], M)) rfl hS.1 hY0 (by decide) rfl rfl ?_
          refine ml_st (S' := (67, [(4, .int ((x1 + 8) + (sp_u4 n (Y.2 da) (x1 + 4)))), (3, .int (sp_u4 n (Y.2 da) (x1 + 4))), (0, .ref a), (1, .int x1), (2, .int x2)], [.int ((x1 + 8) + (sp_u4 n (Y.2 da) (x1 + 4))), .ref b, .int 8, .int ((x2 - ((x1 + 8) + (sp_u4 n (Y.2 da) (x1 + 4)))) - 2)], M)) rfl rfl rfl ?_
          refine ml_call (a := [.ref b, .int ((x1 + 8) + (sp_u4 n (Y.2 da) (x1 + 4)))]) (rest := [.int 8, .int ((x2 - ((x1 + 8) + (sp_u4 n (Y.2 da) (x1 + 4)))) - 2)]) rfl (okc_t rfl rfl rfl hS.1 hY2 (by decide)) rfl rfl (tq_u2 hS.1 hY2 (by omega)) (fun v4 M5 h6 => ?_)
          obtain ⟨⟨u7, rfl⟩, h6⟩ := h6
          rw [h6]
          show ml _ _ _ (70, [(4, .int ((x1 + 8) + (sp_u4 n (Y.2 da) (x1 + 4)))), (3, .int (sp_u4 n (Y.2 da) (x1 + 4))), (0, .ref a), (1, .int x1), (2, .int x2)], [.int u7, .int 8, .int ((x2 - ((x1 + 8) + (sp_u4 n (Y.2 da) (x1 + 4)))) - 2)], M) _
          refine ml_st (S' := (71, [(4, .int ((x1 + 8) + (sp_u4 n (Y.2 da) (x1 + 4)))), (3, .int (sp_u4 n (Y.2 da) (x1 + 4))), (0, .ref a), (1, .int x1), (2, .int x2)], [.int (8 * u7), .int ((x2 - ((x1 + 8) + (sp_u4 n (Y.2 da) (x1 + 4)))) - 2)], M)) rfl rfl rfl ?_
          refine ml_if2 (S1 := (76, [(4, .int ((x1 + 8) + (sp_u4 n (Y.2 da) (x1 + 4)))), (3, .int (sp_u4 n (Y.2 da) (x1 + 4))), (0, .ref a), (1, .int x1), (2, .int x2)], [], M)) (S2 := (74, [], [], M)) rfl rfl rfl (fun c_71 => ?_) (fun c_71 => ?_)
          · have c_71 : (8 * u7) ≤ ((x2 - ((x1 + 8) + (sp_u4 n (Y.2 da) (x1 + 4)))) - 2) := of_decide_eq_true c_71
            refine ml_blk 3 (S' := (80, [(4, .int ((x1 + 8) + (sp_u4 n (Y.2 da) (x1 + 4)))), (3, .int (sp_u4 n (Y.2 da) (x1 + 4))), (0, .ref a), (1, .int x1), (2, .int x2)], [.int (((x1 + 8) + (sp_u4 n (Y.2 da) (x1 + 4))) + 2)], M)) rfl ?_
            refine ml_blk 2 (S' := (83, [(4, .int ((x1 + 8) + (sp_u4 n (Y.2 da) (x1 + 4)))), (3, .int (sp_u4 n (Y.2 da) (x1 + 4))), (0, .ref a), (1, .int x1), (2, .int x2)], [.ref a, .int 8, .int (((x1 + 8) + (sp_u4 n (Y.2 da) (x1 + 4))) + 2)], M)) rfl ?_
            refine tg_ref (S' := (86, [(4, .int ((x1 + 8) + (sp_u4 n (Y.2 da) (x1 + 4)))), (3, .int (sp_u4 n (Y.2 da) (x1 + 4))), (0, .ref a), (1, .int x1), (2, .int x2)], [.ref b, .int 8, .int (((x1 + 8) + (sp_u4 n (Y.2 da) (x1 + 4))) + 2)], M)) rfl hS.1 hY0 (by decide) rfl rfl ?_
            refine ml_st (S' := (88, [(4, .int ((x1 + 8) + (sp_u4 n (Y.2 da) (x1 + 4)))), (3, .int (sp_u4 n (Y.2 da) (x1 + 4))), (0, .ref a), (1, .int x1), (2, .int x2)], [.int ((x1 + 8) + (sp_u4 n (Y.2 da) (x1 + 4))), .ref b, .int 8, .int (((x1 + 8) + (sp_u4 n (Y.2 da) (x1 + 4))) + 2)], M)) rfl rfl rfl ?_
            refine ml_call (a := [.ref b, .int ((x1 + 8) + (sp_u4 n (Y.2 da) (x1 + 4)))]) (rest := [.int 8, .int (((x1 + 8) + (sp_u4 n (Y.2 da) (x1 + 4))) + 2)]) rfl (okc_t rfl rfl rfl hS.1 hY2 (by decide)) rfl rfl (tq_u2 hS.1 hY2 (by omega)) (fun v8 M9 h10 => ?_)
            obtain ⟨⟨u11, rfl⟩, h10⟩ := h10
            rw [h10]
            show ml _ _ _ (91, [(4, .int ((x1 + 8) + (sp_u4 n (Y.2 da) (x1 + 4)))), (3, .int (sp_u4 n (Y.2 da) (x1 + 4))), (0, .ref a), (1, .int x1), (2, .int x2)], [.int u11, .int 8, .int (((x1 + 8) + (sp_u4 n (Y.2 da) (x1 + 4))) + 2)], M) _
            refine ml_blk 2 (S' := (93, [(4, .int ((x1 + 8) + (sp_u4 n (Y.2 da) (x1 + 4)))), (3, .int (sp_u4 n (Y.2 da) (x1 + 4))), (0, .ref a), (1, .int x1), (2, .int x2)], [.int ((((x1 + 8) + (sp_u4 n (Y.2 da) (x1 + 4))) + 2) + (8 * u11))], M)) rfl ?_
            refine ml_st (S' := (95, [(5, .int ((((x1 + 8) + (sp_u4 n (Y.2 da) (x1 + 4))) + 2) + (8 * u11))), (4, .int ((x1 + 8) + (sp_u4 n (Y.2 da) (x1 + 4)))), (3, .int (sp_u4 n (Y.2 da) (x1 + 4))), (0, .ref a), (1, .int x1), (2, .int x2)], [], M)) rfl rfl rfl ?_
            refine ml_blk 3 (S' := (99, [(5, .int ((((x1 + 8) + (sp_u4 n (Y.2 da) (x1 + 4))) + 2) + (8 * u11))), (4, .int ((x1 + 8) + (sp_u4 n (Y.2 da) (x1 + 4)))), (3, .int (sp_u4 n (Y.2 da) (x1 + 4))), (0, .ref a), (1, .int x1), (2, .int x2)], [.int (x2 - ((((x1 + 8) + (sp_u4 n (Y.2 da) (x1 + 4))) + 2) + (8 * u11)))], M)) rfl ?_
            refine ml_st (S' := (100, [(5, .int ((((x1 + 8) + (sp_u4 n (Y.2 da) (x1 + 4))) + 2) + (8 * u11))), (4, .int ((x1 + 8) + (sp_u4 n (Y.2 da) (x1 + 4)))), (3, .int (sp_u4 n (Y.2 da) (x1 + 4))), (0, .ref a), (1, .int x1), (2, .int x2)], [.int 2, .int (x2 - ((((x1 + 8) + (sp_u4 n (Y.2 da) (x1 + 4))) + 2) + (8 * u11)))], M)) rfl rfl rfl ?_
            refine ml_if2 (S1 := (105, [(5, .int ((((x1 + 8) + (sp_u4 n (Y.2 da) (x1 + 4))) + 2) + (8 * u11))), (4, .int ((x1 + 8) + (sp_u4 n (Y.2 da) (x1 + 4)))), (3, .int (sp_u4 n (Y.2 da) (x1 + 4))), (0, .ref a), (1, .int x1), (2, .int x2)], [], M)) (S2 := (103, [(5, .int ((((x1 + 8) + (sp_u4 n (Y.2 da) (x1 + 4))) + 2) + (8 * u11))), (4, .int ((x1 + 8) + (sp_u4 n (Y.2 da) (x1 + 4)))), (3, .int (sp_u4 n (Y.2 da) (x1 + 4))), (0, .ref a), (1, .int x1), (2, .int x2)], [], M)) rfl rfl rfl (fun c_100 => ?_) (fun c_100 => ?_)
            · have c_100 : 2 ≤ (x2 - ((((x1 + 8) + (sp_u4 n (Y.2 da) (x1 + 4))) + 2) + (8 * u11))) := of_decide_eq_true c_100
              refine ml_st (S' := (106, [(5, .int ((((x1 + 8) + (sp_u4 n (Y.2 da) (x1 + 4))) + 2) + (8 * u11))), (4, .int ((x1 + 8) + (sp_u4 n (Y.2 da) (x1 + 4)))), (3, .int (sp_u4 n (Y.2 da) (x1 + 4))), (0, .ref a), (1, .int x1), (2, .int x2)], [.ref a], M)) rfl rfl rfl ?_
              refine tg_ref (S' := (109, [(5, .int ((((x1 + 8) + (sp_u4 n (Y.2 da) (x1 + 4))) + 2) + (8 * u11))), (4, .int ((x1 + 8) + (sp_u4 n (Y.2 da) (x1 + 4)))), (3, .int (sp_u4 n (Y.2 da) (x1 + 4))), (0, .ref a), (1, .int x1), (2, .int x2)], [.ref b], M)) rfl hS.1 hY0 (by decide) rfl rfl ?_
              refine ml_blk 3 (S' := (113, [(5, .int ((((x1 + 8) + (sp_u4 n (Y.2 da) (x1 + 4))) + 2) + (8 * u11))), (4, .int ((x1 + 8) + (sp_u4 n (Y.2 da) (x1 + 4)))), (3, .int (sp_u4 n (Y.2 da) (x1 + 4))), (0, .ref a), (1, .int x1), (2, .int x2)], [.int (((((x1 + 8) + (sp_u4 n (Y.2 da) (x1 + 4))) + 2) + (8 * u11)) + 2), .ref b], M)) rfl ?_
              refine ml_st (S' := (114, [(5, .int ((((x1 + 8) + (sp_u4 n (Y.2 da) (x1 + 4))) + 2) + (8 * u11))), (4, .int ((x1 + 8) + (sp_u4 n (Y.2 da) (x1 + 4)))), (3, .int (sp_u4 n (Y.2 da) (x1 + 4))), (0, .ref a), (1, .int x1), (2, .int x2)], [.ref a, .int (((((x1 + 8) + (sp_u4 n (Y.2 da) (x1 + 4))) + 2) + (8 * u11)) + 2), .ref b], M)) rfl rfl rfl ?_
              refine tg_ref (S' := (117, [(5, .int ((((x1 + 8) + (sp_u4 n (Y.2 da) (x1 + 4))) + 2) + (8 * u11))), (4, .int ((x1 + 8) + (sp_u4 n (Y.2 da) (x1 + 4)))), (3, .int (sp_u4 n (Y.2 da) (x1 + 4))), (0, .ref a), (1, .int x1), (2, .int x2)], [.ref b, .int (((((x1 + 8) + (sp_u4 n (Y.2 da) (x1 + 4))) + 2) + (8 * u11)) + 2), .ref b], M)) rfl hS.1 hY0 (by decide) rfl rfl ?_
              refine ml_st (S' := (119, [(5, .int ((((x1 + 8) + (sp_u4 n (Y.2 da) (x1 + 4))) + 2) + (8 * u11))), (4, .int ((x1 + 8) + (sp_u4 n (Y.2 da) (x1 + 4)))), (3, .int (sp_u4 n (Y.2 da) (x1 + 4))), (0, .ref a), (1, .int x1), (2, .int x2)], [.int ((((x1 + 8) + (sp_u4 n (Y.2 da) (x1 + 4))) + 2) + (8 * u11)), .ref b, .int (((((x1 + 8) + (sp_u4 n (Y.2 da) (x1 + 4))) + 2) + (8 * u11)) + 2), .ref b], M)) rfl rfl rfl ?_
              refine ml_call (a := [.ref b, .int ((((x1 + 8) + (sp_u4 n (Y.2 da) (x1 + 4))) + 2) + (8 * u11))]) (rest := [.int (((((x1 + 8) + (sp_u4 n (Y.2 da) (x1 + 4))) + 2) + (8 * u11)) + 2), .ref b]) rfl (okc_t rfl rfl rfl hS.1 hY2 (by decide)) rfl rfl (tq_u2 hS.1 hY2 (by omega)) (fun v12 M13 h14 => ?_)
              obtain ⟨⟨u15, rfl⟩, h14⟩ := h14
              rw [h14]
              show ml _ _ _ (122, [(5, .int ((((x1 + 8) + (sp_u4 n (Y.2 da) (x1 + 4))) + 2) + (8 * u11))), (4, .int ((x1 + 8) + (sp_u4 n (Y.2 da) (x1 + 4)))), (3, .int (sp_u4 n (Y.2 da) (x1 + 4))), (0, .ref a), (1, .int x1), (2, .int x2)], [.int u15, .int (((((x1 + 8) + (sp_u4 n (Y.2 da) (x1 + 4))) + 2) + (8 * u11)) + 2), .ref b], M) _
              refine ml_st (S' := (123, [(5, .int ((((x1 + 8) + (sp_u4 n (Y.2 da) (x1 + 4))) + 2) + (8 * u11))), (4, .int ((x1 + 8) + (sp_u4 n (Y.2 da) (x1 + 4)))), (3, .int (sp_u4 n (Y.2 da) (x1 + 4))), (0, .ref a), (1, .int x1), (2, .int x2)], [.int x2, .int u15, .int (((((x1 + 8) + (sp_u4 n (Y.2 da) (x1 + 4))) + 2) + (8 * u11)) + 2), .ref b], M)) rfl rfl rfl ?_
              refine ml_call (a := [.ref b, .int (((((x1 + 8) + (sp_u4 n (Y.2 da) (x1 + 4))) + 2) + (8 * u11)) + 2), .int u15, .int x2]) (rest := []) rfl (okc_t rfl rfl rfl hS.1 hY2 (by decide)) rfl rfl (tq_attributesEnd hS.1 hY2 (by omega)) (fun v16 M17 h18 => ?_)
              obtain ⟨⟨u19, rfl⟩, h18⟩ := h18
              rw [h18]
              show ml _ _ _ (126, [(5, .int ((((x1 + 8) + (sp_u4 n (Y.2 da) (x1 + 4))) + 2) + (8 * u11))), (4, .int ((x1 + 8) + (sp_u4 n (Y.2 da) (x1 + 4)))), (3, .int (sp_u4 n (Y.2 da) (x1 + 4))), (0, .ref a), (1, .int x1), (2, .int x2)], [.int u19], M) _
              exact ml_ret rfl (rfl) (⟨⟨_, rfl, Or.inr ⟨nneg c_22, c_32⟩⟩, rfl⟩)
            · have c_100 : ¬ (2 ≤ (x2 - ((((x1 + 8) + (sp_u4 n (Y.2 da) (x1 + 4))) + 2) + (8 * u11)))) := of_decide_eq_false c_100
              refine ml_st (S' := (104, [(5, .int ((((x1 + 8) + (sp_u4 n (Y.2 da) (x1 + 4))) + 2) + (8 * u11))), (4, .int ((x1 + 8) + (sp_u4 n (Y.2 da) (x1 + 4)))), (3, .int (sp_u4 n (Y.2 da) (x1 + 4))), (0, .ref a), (1, .int x1), (2, .int x2)], [.int (-1)], M)) rfl rfl rfl ?_
              exact ml_ret rfl (rfl) (⟨⟨_, rfl, Or.inl rfl⟩, rfl⟩)
          · have c_71 : ¬ ((8 * u7) ≤ ((x2 - ((x1 + 8) + (sp_u4 n (Y.2 da) (x1 + 4)))) - 2)) := of_decide_eq_false c_71
            refine ml_st (S' := (75, [], [.int (-1)], M)) rfl rfl rfl ?_
            exact ml_ret rfl (rfl) (⟨⟨_, rfl, Or.inl rfl⟩, rfl⟩)
      · have c_32 : ¬ ((sp_u4 n (Y.2 da) (x1 + 4)) ≤ ((x2 - x1) - 8)) := of_decide_eq_false c_32
        refine ml_st (S' := (36, [], [.int (-1)], M)) rfl rfl rfl ?_
        exact ml_ret rfl (rfl) (⟨⟨_, rfl, Or.inl rfl⟩, rfl⟩)
  · have c_5 : ¬ (8 ≤ (x2 - x1)) := of_decide_eq_false c_5
    refine ml_st (S' := (9, [(0, .ref a), (1, .int x1), (2, .int x2)], [.int (-1)], M)) rfl rfl rfl ?_
    exact ml_ret rfl (rfl) (⟨⟨_, rfl, Or.inl rfl⟩, rfl⟩)
set_option maxHeartbeats 2000000 in
theorem tx_formEnd {g : xe_G} {M : mi_H} {Y : yT} {a c b p vd da n : Nat} {pp : List Nat} {x1 x2 x3 : Int32}  (hW : WF g Y M) (hY0 : Y.1 a = some (0, [c, b, p, vd])) (hY1 : Y.1 c = some (3, [b, da, n])) (hY2 : Y.1 b = some (1, [da, n])) (hY3 : Y.1 p = some (7, pp)) (hY4 : Y.1 vd = some (10, [])) {d : Nat} (hd : 4 ≤ d) : mt (mT g) d 32 [.ref a, .int x1, .int x2, .int x3] M (fun v M' => (∃ x : Int32, v = some (.int x) ∧ (x = -1 ∨ (x1 = 2 → 0 ≤ (sp_u4 n (Y.2 da) (x2 + 4)).toInt ∧ (sp_u4 n (Y.2 da) (x2 + 4)) ≤ x3 - x2 - 8))) ∧ M' = M) := by
  obtain ⟨d, rfl⟩ : ∃ e, d = e + 1 := ⟨d - 1, by omega⟩
  have hS : st g Y M M := st.rf hW
  refine mt_in (b := mb_32 g) rfl rfl ?_
  show ml (mT g) d (mb_32 g).2 (0, [(0, .ref a), (1, .int x1), (2, .int x2), (3, .int x3)], [], M) _
  refine ml_blk 3 (S' := (3, [(0, .ref a), (1, .int x1), (2, .int x2), (3, .int x3)], [.int (x3 - x2)], M)) rfl ?_
  refine ml_st (S' := (4, [(0, .ref a), (1, .int x1), (2, .int x2), (3, .int x3)], [.int 2, .int (x3 - x2)], M)) rfl rfl rfl ?_
  refine ml_if2 (S1 := (9, [(0, .ref a), (1, .int x1), (2, .int x2), (3, .int x3)], [], M)) (S2 := (7, [(0, .ref a), (1, .int x1), (2, .int x2), (3, .int x3)], [], M)) rfl rfl rfl (fun c_4 => ?_) (fun c_4 => ?_)
  · have c_4 : 2 ≤ (x3 - x2) := of_decide_eq_true c_4
    refine ml_st (S' := (10, [(0, .ref a), (1, .int x1), (2, .int x2), (3, .int x3)], [.int x1], M)) rfl rfl rfl ?_
    refine ml_sw rfl (fun t_10 ht_10 => ?_)
    have kt_10 := ht_10
    have ht_10 : t_10 ∈ [64, 68, 83, 99, 106, 113] := mi_sw_sub ht_10 (by decide)
    simp only [List.mem_cons, List.not_mem_nil, or_false] at ht_10
    rcases ht_10 with rfl | rfl | rfl | rfl | rfl | rfl
    · show ml _ _ _ (64, [(0, .ref a), (1, .int x1), (2, .int x2), (3, .int x3)], [], M) _
      refine ml_blk 3 (S' := (67, [(0, .ref a), (1, .int x1), (2, .int x2), (3, .int x3)], [.int (x2 + 2)], M)) rfl ?_
      exact ml_ret rfl (rfl) (⟨⟨_, rfl, Or.inr (fun e => by rw [e] at kt_10; exact absurd kt_10 (by decide))⟩, rfl⟩)
    · show ml _ _ _ (68, [(0, .ref a), (1, .int x1), (2, .int x2), (3, .int x3)], [], M) _
      refine ml_blk 3 (S' := (71, [(0, .ref a), (1, .int x1), (2, .int x2), (3, .int x3)], [.int (x2 + 2)], M)) rfl ?_
      refine ml_blk 2 (S' := (73, [(0, .ref a), (1, .int x1), (2, .int x2), (3, .int x3)], [.ref a, .int 2, .int (x2 + 2)], M)) rfl ?_
      refine tg_ref (S' := (76, [(0, .ref a), (1, .int x1), (2, .int x2), (3, .int x3)], [.ref b, .int 2, .int (x2 + 2)], M)) rfl hS.1 hY0 (by decide) rfl rfl ?_
      refine ml_st (S' := (77, [(0, .ref a), (1, .int x1), (2, .int x2), (3, .int x3)], [.int x2, .ref b, .int 2, .int (x2 + 2)], M)) rfl rfl rfl ?_
      refine ml_call (a := [.ref b, .int x2]) (rest := [.int 2, .int (x2 + 2)]) rfl (okc_t rfl rfl rfl hS.1 hY2 (by decide)) rfl rfl (tq_u2 hS.1 hY2 (by omega)) (fun v1 M2 h3 => ?_)
      obtain ⟨⟨u4, rfl⟩, h3⟩ := h3
      rw [h3]
      show ml _ _ _ (80, [(0, .ref a), (1, .int x1), (2, .int x2), (3, .int x3)], [.int u4, .int 2, .int (x2 + 2)], M) _
      refine ml_blk 2 (S' := (82, [(0, .ref a), (1, .int x1), (2, .int x2), (3, .int x3)], [.int ((x2 + 2) + (2 * u4))], M)) rfl ?_
      exact ml_ret rfl (rfl) (⟨⟨_, rfl, Or.inr (fun e => by rw [e] at kt_10; exact absurd kt_10 (by decide))⟩, rfl⟩)
    · show ml _ _ _ (83, [(0, .ref a), (1, .int x1), (2, .int x2), (3, .int x3)], [], M) _
      refine ml_blk 3 (S' := (86, [(0, .ref a), (1, .int x1), (2, .int x2), (3, .int x3)], [.int (x2 + 2)], M)) rfl ?_
      refine ml_blk 2 (S' := (89, [(0, .ref a), (1, .int x1), (2, .int x2), (3, .int x3)], [.ref a, .int 8, .int (x2 + 2)], M)) rfl ?_
      refine tg_ref (S' := (92, [(0, .ref a), (1, .int x1), (2, .int x2), (3, .int x3)], [.ref b, .int 8, .int (x2 + 2)], M)) rfl hS.1 hY0 (by decide) rfl rfl ?_
      refine ml_st (S' := (93, [(0, .ref a), (1, .int x1), (2, .int x2), (3, .int x3)], [.int x2, .ref b, .int 8, .int (x2 + 2)], M)) rfl rfl rfl ?_
      refine ml_call (a := [.ref b, .int x2]) (rest := [.int 8, .int (x2 + 2)]) rfl (okc_t rfl rfl rfl hS.1 hY2 (by decide)) rfl rfl (tq_u2 hS.1 hY2 (by omega)) (fun v5 M6 h7 => ?_)
      obtain ⟨⟨u8, rfl⟩, h7⟩ := h7
      rw [h7]
      show ml _ _ _ (96, [(0, .ref a), (1, .int x1), (2, .int x2), (3, .int x3)], [.int u8, .int 8, .int (x2 + 2)], M) _
      refine ml_blk 2 (S' := (98, [(0, .ref a), (1, .int x1), (2, .int x2), (3, .int x3)], [.int ((x2 + 2) + (8 * u8))], M)) rfl ?_
      exact ml_ret rfl (rfl) (⟨⟨_, rfl, Or.inr (fun e => by rw [e] at kt_10; exact absurd kt_10 (by decide))⟩, rfl⟩)
    · show ml _ _ _ (99, [(0, .ref a), (1, .int x1), (2, .int x2), (3, .int x3)], [], M) _
      refine ml_blk 3 (S' := (102, [(0, .ref a), (1, .int x1), (2, .int x2), (3, .int x3)], [.int x3, .int x2, .ref a], M)) rfl ?_
      refine ml_call (a := [.ref a, .int x2, .int x3]) (rest := []) rfl (okc_t rfl rfl rfl hS.1 hY0 (by decide)) rfl rfl (tw_At_bootstrapsEnd hS.1 hY0 hY1 hY2 hY3 hY4 (by omega)) (fun v9 M10 h11 => ?_)
      obtain ⟨⟨u12, rfl⟩, h11⟩ := h11
      rw [h11]
      show ml _ _ _ (105, [(0, .ref a), (1, .int x1), (2, .int x2), (3, .int x3)], [.int u12], M) _
      exact ml_ret rfl (rfl) (⟨⟨_, rfl, Or.inr (fun e => by rw [e] at kt_10; exact absurd kt_10 (by decide))⟩, rfl⟩)
    · show ml _ _ _ (106, [(0, .ref a), (1, .int x1), (2, .int x2), (3, .int x3)], [], M) _
      refine ml_blk 3 (S' := (109, [(0, .ref a), (1, .int x1), (2, .int x2), (3, .int x3)], [.int x3, .int x2, .ref a], M)) rfl ?_
      refine ml_call (a := [.ref a, .int x2, .int x3]) (rest := []) rfl (okc_t rfl rfl rfl hS.1 hY0 (by decide)) rfl rfl (tw_At_recordEnd hS.1 hY0 hY1 hY2 hY3 hY4 (by omega)) (fun v13 M14 h15 => ?_)
      obtain ⟨⟨u16, rfl⟩, h15⟩ := h15
      rw [h15]
      show ml _ _ _ (112, [(0, .ref a), (1, .int x1), (2, .int x2), (3, .int x3)], [.int u16], M) _
      exact ml_ret rfl (rfl) (⟨⟨_, rfl, Or.inr (fun e => by rw [e] at kt_10; exact absurd kt_10 (by decide))⟩, rfl⟩)
    · show ml _ _ _ (113, [(0, .ref a), (1, .int x1), (2, .int x2), (3, .int x3)], [], M) _
      refine ml_blk 3 (S' := (116, [(0, .ref a), (1, .int x1), (2, .int x2), (3, .int x3)], [.int x3, .int x2, .ref a], M)) rfl ?_
      refine ml_call (a := [.ref a, .int x2, .int x3]) (rest := []) rfl (okc_t rfl rfl rfl hS.1 hY0 (by decide)) rfl rfl (tx_codeEnd hS.1 hY0 hY1 hY2 hY3 hY4 (by omega)) (fun v17 M18 h19 => ?_)
      obtain ⟨⟨u20, rfl, z21⟩, h19⟩ := h19
      rw [h19]
      show ml _ _ _ (119, [(0, .ref a), (1, .int x1), (2, .int x2), (3, .int x3)], [.int u20], M) _
      exact ml_ret rfl (rfl) (⟨⟨_, rfl, z21.imp id (fun h _ => h)⟩, rfl⟩)
  · have c_4 : ¬ (2 ≤ (x3 - x2)) := of_decide_eq_false c_4
    refine ml_st (S' := (8, [(0, .ref a), (1, .int x1), (2, .int x2), (3, .int x3)], [.int (-1)], M)) rfl rfl rfl ?_
    exact ml_ret rfl (rfl) (⟨⟨_, rfl, Or.inl rfl⟩, rfl⟩)
set_option maxHeartbeats 2000000 in
theorem tx_rowHolds {g : xe_G} {M : mi_H} {Y : yT} {a c b p vd da n co p2 o2 k2 : Nat} {pp : List Nat} {x2 : Int32}  (hW : WF g Y M) (hY0 : Y.1 a = some (0, [c, b, p, vd])) (hY1 : Y.1 c = some (3, [b, da, n])) (hY2 : Y.1 b = some (1, [da, n])) (hY3 : Y.1 p = some (7, pp)) (hY4 : Y.1 vd = some (10, [])) (hY5 : Y.1 co = some (4, [p2, o2, k2])) {d : Nat} (hd : 2 ≤ d) : mt (mT g) d 43 [.ref a, .ref co, .int x2] M (pZ M) := by
  obtain ⟨d, rfl⟩ : ∃ e, d = e + 1 := ⟨d - 1, by omega⟩
  have hS : st g Y M M := st.rf hW
  refine mt_in (b := mb_43 g) rfl rfl ?_
  show ml (mT g) d (mb_43 g).2 (0, [(0, .ref a), (1, .ref co), (2, .int x2)], [], M) _
  obtain ⟨⟨pp1, h2⟩, b3, h4⟩ := hS.1.lnk hY5 (by decide)
  obtain ⟨da5, n6, h7⟩ := hS.1.lnk h4 (by decide)
  refine ml_st (S' := (1, [(0, .ref a), (1, .ref co), (2, .int x2)], [.ref a], M)) rfl rfl rfl ?_
  refine tg_ref (S' := (4, [(0, .ref a), (1, .ref co), (2, .int x2)], [.ref b], M)) rfl hS.1 hY0 (by decide) rfl rfl ?_
  refine ml_blk 3 (S' := (7, [(0, .ref a), (1, .ref co), (2, .int x2)], [.int (x2 + 2), .ref b], M)) rfl ?_
  refine ml_call (a := [.ref b, .int (x2 + 2)]) (rest := []) rfl (okc_t rfl rfl rfl hS.1 hY2 (by decide)) rfl rfl (tq_u2 hS.1 hY2 (by omega)) (fun v8 M9 h10 => ?_)
  obtain ⟨⟨u11, rfl⟩, h10⟩ := h10
  rw [h10]
  show ml _ _ _ (10, [(0, .ref a), (1, .ref co), (2, .int x2)], [.int u11], M) _
  refine ml_st (S' := (11, [(3, .int u11), (0, .ref a), (1, .ref co), (2, .int x2)], [], M)) rfl rfl rfl ?_
  refine ml_st (S' := (12, [(3, .int u11), (0, .ref a), (1, .ref co), (2, .int x2)], [.ref a], M)) rfl rfl rfl ?_
  refine tg_ref (S' := (15, [(3, .int u11), (0, .ref a), (1, .ref co), (2, .int x2)], [.ref b], M)) rfl hS.1 hY0 (by decide) rfl rfl ?_
  refine ml_blk 3 (S' := (19, [(3, .int u11), (0, .ref a), (1, .ref co), (2, .int x2)], [.int (x2 + 6), .ref b], M)) rfl ?_
  refine ml_call (a := [.ref b, .int (x2 + 6)]) (rest := []) rfl (okc_t rfl rfl rfl hS.1 hY2 (by decide)) rfl rfl (tq_u2 hS.1 hY2 (by omega)) (fun v12 M13 h14 => ?_)
  obtain ⟨⟨u15, rfl⟩, h14⟩ := h14
  rw [h14]
  show ml _ _ _ (22, [(3, .int u11), (0, .ref a), (1, .ref co), (2, .int x2)], [.int u15], M) _
  refine ml_st (S' := (24, [(4, .int u15), (3, .int u11), (0, .ref a), (1, .ref co), (2, .int x2)], [], M)) rfl rfl rfl ?_
  refine ml_st (S' := (25, [(4, .int u15), (3, .int u11), (0, .ref a), (1, .ref co), (2, .int x2)], [.ref a], M)) rfl rfl rfl ?_
  refine tg_ref (S' := (28, [(4, .int u15), (3, .int u11), (0, .ref a), (1, .ref co), (2, .int x2)], [.ref b], M)) rfl hS.1 hY0 (by decide) rfl rfl ?_
  refine ml_st (S' := (29, [(4, .int u15), (3, .int u11), (0, .ref a), (1, .ref co), (2, .int x2)], [.int x2, .ref b], M)) rfl rfl rfl ?_
  refine ml_call (a := [.ref b, .int x2]) (rest := []) rfl (okc_t rfl rfl rfl hS.1 hY2 (by decide)) rfl rfl (tq_u2 hS.1 hY2 (by omega)) (fun v16 M17 h18 => ?_)
  obtain ⟨⟨u19, rfl⟩, h18⟩ := h18
  rw [h18]
  show ml _ _ _ (32, [(4, .int u15), (3, .int u11), (0, .ref a), (1, .ref co), (2, .int x2)], [.int u19], M) _
  refine ml_st (S' := (33, [(4, .int u15), (3, .int u11), (0, .ref a), (1, .ref co), (2, .int x2)], [.int u11, .int u19], M)) rfl rfl rfl ?_
  refine ml_if2 (S1 := (84, [], [], M)) (S2 := (36, [(4, .int u15), (3, .int u11), (0, .ref a), (1, .ref co), (2, .int x2)], [], M)) rfl rfl rfl (fun c_33 => ?_) (fun c_33 => ?_)
  · have c_33 : u11 ≤ u19 := of_decide_eq_true c_33
    refine ml_st (S' := (85, [], [.int 0], M)) rfl rfl rfl ?_
    exact ml_ret rfl (r_z (Or.inl rfl)) (⟨⟨_, rfl, Or.inl rfl⟩, rfl⟩)
  · have c_33 : ¬ (u11 ≤ u19) := of_decide_eq_false c_33
    refine ml_blk 2 (S' := (38, [(4, .int u15), (3, .int u11), (0, .ref a), (1, .ref co), (2, .int x2)], [.ref co, .int u11], M)) rfl ?_
    refine tg_int rfl hS.1 hY5 (by decide) rfl (fun u20 g21 => ?_)
    show ml _ _ _ (41, [(4, .int u15), (3, .int u11), (0, .ref a), (1, .ref co), (2, .int x2)], [.int u20, .int u11], M) _
    refine ml_if2 (S1 := (84, [], [], M)) (S2 := (44, [(4, .int u15), (3, .int u11), (0, .ref a), (1, .ref co), (2, .int x2)], [], M)) rfl rfl rfl (fun c_41 => ?_) (fun c_41 => ?_)
    · have c_41 : u20 < u11 := of_decide_eq_true c_41
      refine ml_st (S' := (85, [], [.int 0], M)) rfl rfl rfl ?_
      exact ml_ret rfl (r_z (Or.inl rfl)) (⟨⟨_, rfl, Or.inl rfl⟩, rfl⟩)
    · have c_41 : ¬ (u20 < u11) := of_decide_eq_false c_41
      refine ml_st (S' := (45, [(4, .int u15), (3, .int u11), (0, .ref a), (1, .ref co), (2, .int x2)], [.ref a], M)) rfl rfl rfl ?_
      refine tg_ref (S' := (48, [(4, .int u15), (3, .int u11), (0, .ref a), (1, .ref co), (2, .int x2)], [.ref b], M)) rfl hS.1 hY0 (by decide) rfl rfl ?_
      refine ml_blk 3 (S' := (51, [(4, .int u15), (3, .int u11), (0, .ref a), (1, .ref co), (2, .int x2)], [.int (x2 + 4), .ref b], M)) rfl ?_
      refine ml_call (a := [.ref b, .int (x2 + 4)]) (rest := []) rfl (okc_t rfl rfl rfl hS.1 hY2 (by decide)) rfl rfl (tq_u2 hS.1 hY2 (by omega)) (fun v22 M23 h24 => ?_)
      obtain ⟨⟨u25, rfl⟩, h24⟩ := h24
      rw [h24]
      show ml _ _ _ (54, [(4, .int u15), (3, .int u11), (0, .ref a), (1, .ref co), (2, .int x2)], [.int u25], M) _
      refine ml_st (S' := (55, [(4, .int u15), (3, .int u11), (0, .ref a), (1, .ref co), (2, .int x2)], [.ref co, .int u25], M)) rfl rfl rfl ?_
      refine ml_get (S' := (58, [(4, .int u15), (3, .int u11), (0, .ref a), (1, .ref co), (2, .int x2)], [.int u20, .int u25], M)) rfl g21 rfl ?_
      refine ml_if2 (S1 := (84, [], [], M)) (S2 := (61, [(4, .int u15), (3, .int u11), (0, .ref a), (1, .ref co), (2, .int x2)], [], M)) rfl rfl rfl (fun c_58 => ?_) (fun c_58 => ?_)
      · have c_58 : u20 ≤ u25 := of_decide_eq_true c_58
        refine ml_st (S' := (85, [], [.int 0], M)) rfl rfl rfl ?_
        exact ml_ret rfl (r_z (Or.inl rfl)) (⟨⟨_, rfl, Or.inl rfl⟩, rfl⟩)
      · have c_58 : ¬ (u20 ≤ u25) := of_decide_eq_false c_58
        refine ml_st (S' := (63, [(4, .int u15), (3, .int u11), (0, .ref a), (1, .ref co), (2, .int x2)], [.int u15], M)) rfl rfl rfl ?_
        refine ml_if (S1 := (80, [], [], M)) (S2 := (66, [(4, .int u15), (3, .int u11), (0, .ref a), (1, .ref co), (2, .int x2)], [], M)) rfl rfl rfl (fun c_63 => ?_) (fun c_63 => ?_)
        · have c_63 : u15 = 0 := of_decide_eq_true c_63
          refine ml_st (S' := (81, [], [.int 1], M)) rfl rfl rfl ?_
          refine ml_st (S' := (85, [], [.int 1], M)) rfl rfl rfl ?_
          exact ml_ret rfl (r_z (Or.inr rfl)) (⟨⟨_, rfl, Or.inr rfl⟩, rfl⟩)
        · have c_63 : ¬ (u15 = 0) := of_decide_eq_false c_63
          refine ml_st (S' := (67, [(4, .int u15), (3, .int u11), (0, .ref a), (1, .ref co), (2, .int x2)], [.ref a], M)) rfl rfl rfl ?_
          refine tg_ref (S' := (70, [(4, .int u15), (3, .int u11), (0, .ref a), (1, .ref co), (2, .int x2)], [.ref p], M)) rfl hS.1 hY0 (by decide) rfl rfl ?_
          refine ml_st (S' := (72, [(4, .int u15), (3, .int u11), (0, .ref a), (1, .ref co), (2, .int x2)], [.int u15, .ref p], M)) rfl rfl rfl ?_
          refine ml_call (a := [.ref p, .int u15]) (rest := []) rfl (okc_t rfl rfl rfl hS.1 hY3 (by decide)) rfl rfl (tq_tagOf hS.1 hY3 (by omega)) (fun v26 M27 h28 => ?_)
          obtain ⟨⟨u29, rfl⟩, h28⟩ := h28
          rw [h28]
          show ml _ _ _ (75, [(4, .int u15), (3, .int u11), (0, .ref a), (1, .ref co), (2, .int x2)], [.int u29], M) _
          refine ml_st (S' := (77, [(4, .int u15), (3, .int u11), (0, .ref a), (1, .ref co), (2, .int x2)], [.int 7, .int u29], M)) rfl rfl rfl ?_
          refine ml_if2 (S1 := (84, [], [], M)) (S2 := (80, [], [], M)) rfl rfl rfl (fun c_77 => ?_) (fun c_77 => ?_)
          · have c_77 : ¬ u29 = 7 := of_decide_eq_true c_77
            refine ml_st (S' := (85, [], [.int 0], M)) rfl rfl rfl ?_
            exact ml_ret rfl (r_z (Or.inl rfl)) (⟨⟨_, rfl, Or.inl rfl⟩, rfl⟩)
          · have c_77 : ¬ (¬ u29 = 7) := of_decide_eq_false c_77
            refine ml_st (S' := (81, [], [.int 1], M)) rfl rfl rfl ?_
            refine ml_st (S' := (85, [], [.int 1], M)) rfl rfl rfl ?_
            exact ml_ret rfl (r_z (Or.inr rfl)) (⟨⟨_, rfl, Or.inr rfl⟩, rfl⟩)
set_option maxHeartbeats 2000000 in
theorem tx_codeHolds {g : xe_G} {M : mi_H} {Y : yT} {a c b p vd da n me : Nat} {pp : List Nat} {x2 : Int32} {sn cn : Int32} (hW : WF g Y M) (hY0 : Y.1 a = some (0, [c, b, p, vd])) (hY1 : Y.1 c = some (3, [b, da, n])) (hY2 : Y.1 b = some (1, [da, n])) (hY3 : Y.1 p = some (7, pp)) (hY4 : Y.1 vd = some (10, [])) (hY5 : Y.1 me = some (6, [da, n])) (hsn : mi_gf M a 0 4 = some (.int sn)) (hcn : mi_gf M me 6 4 = some (.int cn)) (hl0 : 0 ≤ (sp_u4 n (Y.2 da) ((x2 + 6) + 4)).toInt) (hl1 : (sp_u4 n (Y.2 da) ((x2 + 6) + 4)).toInt ≤ n) {d : Nat} (hd : 4 ≤ d) : mt (mT g) d 30 [.ref a, .ref me, .int x2] M (fun v M' => ∃ Y', ∃ x : Int32, (v = some (.int x) ∧ (x = 0 ∨ x = 1)) ∧ sv g Y M Y' M' [a, vd, me] 2 23 ∧ mi_gf M' me 6 4 = some (.int cn) ∧ (x = 0 ∨ ∃ s1, mi_gf M' a 0 4 = some (.int s1) ∧ (b2 sn → b2 s1))) := by
  obtain ⟨d, rfl⟩ : ∃ e, d = e + 1 := ⟨d - 1, by omega⟩
  have hS : sf g Y [a, vd, me] M M := sf.rf hW
  refine mt_in (b := mb_30 g) rfl rfl ?_
  show ml (mT g) d (mb_30 g).2 (0, [(0, .ref a), (1, .ref me), (2, .int x2)], [], M) _
  have hA : sv g Y M Y M [a, vd, me] 0 0 := sv.rf hW
  have hW_hM2 := hS.1.1
  refine mm_new (k := 4) (N := 11) (ds := [.int 0, .int 0, .int 0, .int 0, .int 0, .null, .int 0, .null, .int 0, .null, .null]) rfl hW_hM2 (fun M1 hM2 => ?_)
  show ml _ _ _ (3, [(0, .ref a), (1, .ref me), (2, .int x2)], [.ref M.2.1], M1) _
  refine ml_blk 2 (S' := (5, [(0, .ref a), (1, .ref me), (2, .int x2)], [.ref a, .ref M.2.1, .ref M.2.1], M1)) rfl ?_
  refine tg_ref (S' := (8, [(0, .ref a), (1, .ref me), (2, .int x2)], [.ref c, .ref M.2.1, .ref M.2.1], M1)) rfl hM2.1.1 hY0 (by decide) rfl rfl ?_
  refine ml_blk 3 (S' := (12, [(0, .ref a), (1, .ref me), (2, .int x2)], [.int (x2 + 6), .ref c, .ref M.2.1, .ref M.2.1], M1)) rfl ?_
  refine ml_call (a := [.ref M.2.1, .ref c, .int (x2 + 6)]) (rest := [.ref M.2.1]) rfl (okc_v rfl rfl rfl hM2.2.1) rfl rfl (tk_Code hW_hM2 hM2 hY1 hY2 (hl0) (hl1) (by omega)) (fun v4 M5 h6 => ?_)
  obtain ⟨rfl, Y7, p8, o9, h10, h11, h12⟩ := h6
  have hA13 := (hA.sf hS).sn h10
  have hS14 : sf g Y7 [a, vd, me] M5 M5 := sf.rf hA13.1.1
  have g15 := gf_fr (h10.2.2.2.2 a (hW_hM2.2.1 _ _ hY0)) hsn
  have g16 := gf_fr (h10.2.2.2.2 me (hW_hM2.2.1 _ _ hY5)) hcn
  have h17 := (h11 _ _ hY0).1
  have h18 := (h11 _ _ hY1).1
  have h19 := (h11 _ _ hY2).1
  have h20 := (h11 _ _ hY3).1
  have h21 := (h11 _ _ hY4).1
  have h22 := (h11 _ _ hY5).1
  show ml _ _ _ (15, [(0, .ref a), (1, .ref me), (2, .int x2)], [.ref M.2.1], M5) _
  refine ml_st (S' := (16, [(3, .ref M.2.1), (0, .ref a), (1, .ref me), (2, .int x2)], [], M5)) rfl rfl rfl ?_
  refine ml_st (S' := (17, [(3, .ref M.2.1), (0, .ref a), (1, .ref me), (2, .int x2)], [.ref M.2.1], M5)) rfl rfl rfl ?_
  refine tg_int rfl hS14.1.1 h12 (by decide) rfl (fun u23 g24 => ?_)
  show ml _ _ _ (20, [(3, .ref M.2.1), (0, .ref a), (1, .ref me), (2, .int x2)], [.int u23], M5) _
  refine ml_st (S' := (21, [(3, .ref M.2.1), (0, .ref a), (1, .ref me), (2, .int x2)], [.int 1, .int u23], M5)) rfl rfl rfl ?_
  refine ml_if2 (S1 := (33, [(0, .ref a), (2, .int x2)], [], M5)) (S2 := (24, [(3, .ref M.2.1), (0, .ref a), (1, .ref me), (2, .int x2)], [], M5)) rfl rfl rfl (fun c_21 => ?_) (fun c_21 => ?_)
  · have c_21 : u23 < 1 := of_decide_eq_true c_21
    refine ml_st (S' := (34, [(0, .ref a), (2, .int x2)], [.ref a], M5)) rfl rfl rfl ?_
    refine tg_ref (S' := (37, [(0, .ref a), (2, .int x2)], [.ref vd], M5)) rfl hS14.1.1 h17 (by decide) rfl rfl ?_
    refine ml_blk 2 (S' := (40, [(0, .ref a), (2, .int x2)], [.int x2, .int 41, .ref vd], M5)) rfl ?_
    refine ml_call (a := [.ref vd, .int 41, .int x2]) (rest := []) rfl (okc_t rfl rfl rfl hS14.1.1 h21 (by decide)) rfl rfl (tw_Ve_wrong hS14.1.1 h21 (by omega)) (fun v25 M26 h27 => ?_)
    obtain ⟨rfl, h27⟩ := h27
    have g29 := h27.2.gf (nin_cons (ykne h17 h21 (by decide)) nin_nil) g15
    have g30 := h27.2.gf (nin_cons (ykne h22 h21 (by decide)) nin_nil) g16
    have hS31 := hS14.tr h27 (by simp)
    show ml _ _ _ (43, [(0, .ref a), (2, .int x2)], [.int 0], M26) _
    exact ml_ret rfl (r_z (Or.inl rfl)) (⟨Y7, _, ⟨rfl, Or.inl rfl⟩, (hA13.sf hS31).le (by omega) (by omega), g30, Or.inl rfl⟩)
  · have c_21 : ¬ (u23 < 1) := of_decide_eq_false c_21
    refine ml_st (S' := (25, [(3, .ref M.2.1), (0, .ref a), (1, .ref me), (2, .int x2)], [.ref M.2.1], M5)) rfl rfl rfl ?_
    refine ml_get (S' := (28, [(3, .ref M.2.1), (0, .ref a), (1, .ref me), (2, .int x2)], [.int u23], M5)) rfl g24 rfl ?_
    refine ml_st (S' := (30, [(3, .ref M.2.1), (0, .ref a), (1, .ref me), (2, .int x2)], [.int 65535, .int u23], M5)) rfl rfl rfl ?_
    refine ml_if2 (S1 := (44, [(3, .ref M.2.1), (0, .ref a), (1, .ref me), (2, .int x2)], [], M5)) (S2 := (33, [(0, .ref a), (2, .int x2)], [], M5)) rfl rfl rfl (fun c_30 => ?_) (fun c_30 => ?_)
    · have c_30 : u23 ≤ 65535 := of_decide_eq_true c_30
      refine ml_st (S' := (45, [(3, .ref M.2.1), (0, .ref a), (1, .ref me), (2, .int x2)], [.ref M.2.1], M5)) rfl rfl rfl ?_
      refine tg_int rfl hS14.1.1 h12 (by decide) rfl (fun u32 g33 => ?_)
      show ml _ _ _ (48, [(3, .ref M.2.1), (0, .ref a), (1, .ref me), (2, .int x2)], [.int u32], M5) _
      refine ml_st (S' := (49, [(3, .ref M.2.1), (0, .ref a), (1, .ref me), (2, .int x2)], [.ref me, .int u32], M5)) rfl rfl rfl ?_
      refine tg_int rfl hS14.1.1 h22 (by decide) rfl (fun u34 g35 => ?_)
      show ml _ _ _ (52, [(3, .ref M.2.1), (0, .ref a), (1, .ref me), (2, .int x2)], [.int u34, .int u32], M5) _
      refine ml_if2 (S1 := (66, [(3, .ref M.2.1), (0, .ref a), (1, .ref me), (2, .int x2)], [], M5)) (S2 := (55, [(3, .ref M.2.1), (0, .ref a), (1, .ref me), (2, .int x2)], [], M5)) rfl rfl rfl (fun c_52 => ?_) (fun c_52 => ?_)
      · have c_52 : u34 ≤ u32 := of_decide_eq_true c_52
        refine ml_st (S' := (67, [(3, .ref M.2.1), (0, .ref a), (1, .ref me), (2, .int x2)], [.int 0], M5)) rfl rfl rfl ?_
        refine ml_st (S' := (69, [(0, .ref a), (1, .ref me), (2, .int x2), (3, .ref M.2.1), (4, .int 0)], [], M5)) rfl rfl rfl ?_
        have L_69 : ∀ (n_69 : Nat) (i69_4 : Int32), (2147483648 - i69_4.toInt).toNat ≤ n_69 → ml (mT g) d (mb_30 g).2 (69, [(0, .ref a), (1, .ref me), (2, .int x2), (3, .ref M.2.1), (4, .int i69_4)], [], M5) (fun v M' => ∃ Y', ∃ x : Int32, (v = some (.int x) ∧ (x = 0 ∨ x = 1)) ∧ sv g Y M Y' M' [a, vd, me] 2 23 ∧ mi_gf M' me 6 4 = some (.int cn) ∧ (x = 0 ∨ ∃ s1, mi_gf M' a 0 4 = some (.int s1) ∧ (b2 sn → b2 s1))) := by
          intro n_69
          induction n_69 with
          | zero => intro i69_4 hn; exact (loop_zero hn).elim
          | succ n_69 ih_69 =>
            intro i69_4 hn_69
            refine ml_blk 2 (S' := (72, [(0, .ref a), (1, .ref me), (2, .int x2), (3, .ref M.2.1), (4, .int i69_4)], [.ref M.2.1, .int i69_4], M5)) rfl ?_
            refine tg_int rfl hS14.1.1 h12 (by decide) rfl (fun u36 g37 => ?_)
            show ml _ _ _ (75, [(0, .ref a), (1, .ref me), (2, .int x2), (3, .ref M.2.1), (4, .int i69_4)], [.int u36, .int i69_4], M5) _
            refine ml_if2 (S1 := (113, [(0, .ref a), (1, .ref me), (2, .int x2), (3, .ref M.2.1), (4, .int i69_4)], [], M5)) (S2 := (78, [(0, .ref a), (1, .ref me), (2, .int x2), (3, .ref M.2.1), (4, .int i69_4)], [], M5)) rfl rfl rfl (fun c_75 => ?_) (fun c_75 => ?_)
            · have c_75 : u36 ≤ i69_4 := of_decide_eq_true c_75
              refine ml_blk 2 (S' := (115, [(0, .ref a), (1, .ref me), (2, .int x2), (3, .ref M.2.1), (4, .int i69_4)], [.ref M.2.1, .ref me], M5)) rfl ?_
              refine tp_put rfl hS14.1 h22 (by decide) rfl (Or.inr ⟨_, rfl, _, _, h12⟩) rfl rfl (fun M38 hS39 f40 => ?_)
              have hS41 := hS14.put hS39 f40 (by simp)
              have g42 := gf_fr (f40.1 a (ykne h17 h22 (by decide))) g15
              have g43 := f40.2.1 4 _ (by decide) g16
              show ml _ _ _ (118, [(0, .ref a), (1, .ref me), (2, .int x2), (3, .ref M.2.1), (4, .int i69_4)], [], M38) _
              refine ml_blk 2 (S' := (120, [(0, .ref a), (1, .ref me), (2, .int x2), (3, .ref M.2.1), (4, .int i69_4)], [.ref M.2.1, .ref a], M38)) rfl ?_
              refine tg_int rfl hS41.1.1 h12 (by decide) rfl (fun u44 g45 => ?_)
              show ml _ _ _ (123, [(0, .ref a), (1, .ref me), (2, .int x2), (3, .ref M.2.1), (4, .int i69_4)], [.int u44, .ref a], M38) _
              refine ml_blk 2 (S' := (126, [(0, .ref a), (1, .ref me), (2, .int x2), (3, .ref M.2.1), (4, .int i69_4)], [.ref M.2.1, .int 8, .int u44, .ref a], M38)) rfl ?_
              refine tg_int rfl hS41.1.1 h12 (by decide) rfl (fun u46 g47 => ?_)
              show ml _ _ _ (129, [(0, .ref a), (1, .ref me), (2, .int x2), (3, .ref M.2.1), (4, .int i69_4)], [.int u46, .int 8, .int u44, .ref a], M38) _
              refine ml_blk 2 (S' := (131, [(0, .ref a), (1, .ref me), (2, .int x2), (3, .ref M.2.1), (4, .int i69_4)], [.int (u44 + (8 * u46)), .ref a], M38)) rfl ?_
              refine ml_call (a := [.ref a, .int (u44 + (8 * u46))]) (rest := []) rfl (okc_t rfl rfl rfl hS41.1.1 h17 (by decide)) rfl rfl (tx_codeAttributesHold hS41.1.1 h17 h18 h19 h20 h21 g42 (by omega)) (fun v48 M49 h50 => ?_)
              obtain ⟨⟨u51, rfl, z52⟩, h50⟩ := h50
              have g53 := h50.2.gf (nin_cons (ykne h22 h17 (by decide)) (nin_cons (ykne h22 h21 (by decide)) nin_nil)) g43
              have hS54 := hS41.tr h50 (by simp)
              show ml _ _ _ (134, [(0, .ref a), (1, .ref me), (2, .int x2), (3, .ref M.2.1), (4, .int i69_4)], [.int u51], M49) _
              exact ml_ret rfl (r_z (qS_z z52)) (⟨Y7, _, ⟨rfl, qS_z z52⟩, (hA13.sf hS54).le (by omega) (by omega), g53, z52.imp id (fun h => h.2)⟩)
            · have c_75 : ¬ (u36 ≤ i69_4) := of_decide_eq_false c_75
              refine ml_blk 3 (S' := (81, [(0, .ref a), (1, .ref me), (2, .int x2), (3, .ref M.2.1), (4, .int i69_4)], [.ref M.2.1, .ref M.2.1, .ref a], M5)) rfl ?_
              refine tg_int rfl hS14.1.1 h12 (by decide) rfl (fun u55 g56 => ?_)
              show ml _ _ _ (84, [(0, .ref a), (1, .ref me), (2, .int x2), (3, .ref M.2.1), (4, .int i69_4)], [.int u55, .ref M.2.1, .ref a], M5) _
              refine ml_blk 3 (S' := (89, [(0, .ref a), (1, .ref me), (2, .int x2), (3, .ref M.2.1), (4, .int i69_4)], [.int (8 * i69_4), .int u55, .ref M.2.1, .ref a], M5)) rfl ?_
              refine ml_st (S' := (90, [(0, .ref a), (1, .ref me), (2, .int x2), (3, .ref M.2.1), (4, .int i69_4)], [.int (u55 + (8 * i69_4)), .ref M.2.1, .ref a], M5)) rfl rfl rfl ?_
              refine ml_call (a := [.ref a, .ref M.2.1, .int (u55 + (8 * i69_4))]) (rest := []) rfl (okc_t rfl rfl rfl hS14.1.1 h17 (by decide)) rfl rfl (tx_rowHolds hS14.1.1 h17 h18 h19 h20 h21 h12 (by omega)) (fun v57 M58 h59 => ?_)
              obtain ⟨⟨u60, rfl, z61⟩, h59⟩ := h59
              rw [h59]
              show ml _ _ _ (93, [(0, .ref a), (1, .ref me), (2, .int x2), (3, .ref M.2.1), (4, .int i69_4)], [.int u60], M5) _
              refine ml_if (S1 := (107, [(0, .ref a), (1, .ref me), (2, .int x2), (3, .ref M.2.1), (4, .int i69_4)], [], M5)) (S2 := (96, [(0, .ref a), (1, .ref me), (2, .int x2), (3, .ref M.2.1), (4, .int i69_4)], [], M5)) rfl rfl rfl (fun c_93 => ?_) (fun c_93 => ?_)
              · have c_93 : ¬ u60 = 0 := of_decide_eq_true c_93
                refine ml_st (S' := (110, [(4, .int (i69_4 + 1)), (0, .ref a), (1, .ref me), (2, .int x2), (3, .ref M.2.1)], [], M5)) rfl rfl rfl ?_
                refine ml_st (S' := (69, [(0, .ref a), (1, .ref me), (2, .int x2), (3, .ref M.2.1), (4, .int (i69_4 + 1))], [], M5)) rfl rfl rfl ?_
                exact ih_69 (i69_4 + 1) (loop_inc (Int32.not_le.mp c_75) hn_69) 
              · have c_93 : ¬ (¬ u60 = 0) := of_decide_eq_false c_93
                refine ml_st (S' := (97, [(0, .ref a), (1, .ref me), (2, .int x2), (3, .ref M.2.1), (4, .int i69_4)], [.ref a], M5)) rfl rfl rfl ?_
                refine tg_ref (S' := (100, [(0, .ref a), (1, .ref me), (2, .int x2), (3, .ref M.2.1), (4, .int i69_4)], [.ref vd], M5)) rfl hS14.1.1 h17 (by decide) rfl rfl ?_
                refine ml_blk 2 (S' := (103, [(0, .ref a), (1, .ref me), (2, .int x2), (3, .ref M.2.1), (4, .int i69_4)], [.int x2, .int 43, .ref vd], M5)) rfl ?_
                refine ml_call (a := [.ref vd, .int 43, .int x2]) (rest := []) rfl (okc_t rfl rfl rfl hS14.1.1 h21 (by decide)) rfl rfl (tw_Ve_wrong hS14.1.1 h21 (by omega)) (fun v62 M63 h64 => ?_)
                obtain ⟨rfl, h64⟩ := h64
                have g66 := h64.2.gf (nin_cons (ykne h17 h21 (by decide)) nin_nil) g15
                have g67 := h64.2.gf (nin_cons (ykne h22 h21 (by decide)) nin_nil) g16
                have hS68 := hS14.tr h64 (by simp)
                show ml _ _ _ (106, [(0, .ref a), (1, .ref me), (2, .int x2), (3, .ref M.2.1), (4, .int i69_4)], [.int 0], M63) _
                exact ml_ret rfl (r_z (Or.inl rfl)) (⟨Y7, _, ⟨rfl, Or.inl rfl⟩, (hA13.sf hS68).le (by omega) (by omega), g67, Or.inl rfl⟩)
        exact L_69 _ 0 (Nat.le_refl _) 
      · have c_52 : ¬ (u34 ≤ u32) := of_decide_eq_false c_52
        refine ml_st (S' := (56, [(3, .ref M.2.1), (0, .ref a), (1, .ref me), (2, .int x2)], [.ref a], M5)) rfl rfl rfl ?_
        refine tg_ref (S' := (59, [(3, .ref M.2.1), (0, .ref a), (1, .ref me), (2, .int x2)], [.ref vd], M5)) rfl hS14.1.1 h17 (by decide) rfl rfl ?_
        refine ml_blk 2 (S' := (62, [(3, .ref M.2.1), (0, .ref a), (1, .ref me), (2, .int x2)], [.int x2, .int 42, .ref vd], M5)) rfl ?_
        refine ml_call (a := [.ref vd, .int 42, .int x2]) (rest := []) rfl (okc_t rfl rfl rfl hS14.1.1 h21 (by decide)) rfl rfl (tw_Ve_wrong hS14.1.1 h21 (by omega)) (fun v69 M70 h71 => ?_)
        obtain ⟨rfl, h71⟩ := h71
        have g73 := h71.2.gf (nin_cons (ykne h17 h21 (by decide)) nin_nil) g15
        have g74 := h71.2.gf (nin_cons (ykne h22 h21 (by decide)) nin_nil) g16
        have hS75 := hS14.tr h71 (by simp)
        show ml _ _ _ (65, [(3, .ref M.2.1), (0, .ref a), (1, .ref me), (2, .int x2)], [.int 0], M70) _
        exact ml_ret rfl (r_z (Or.inl rfl)) (⟨Y7, _, ⟨rfl, Or.inl rfl⟩, (hA13.sf hS75).le (by omega) (by omega), g74, Or.inl rfl⟩)
    · have c_30 : ¬ (u23 ≤ 65535) := of_decide_eq_false c_30
      refine ml_st (S' := (34, [(0, .ref a), (2, .int x2)], [.ref a], M5)) rfl rfl rfl ?_
      refine tg_ref (S' := (37, [(0, .ref a), (2, .int x2)], [.ref vd], M5)) rfl hS14.1.1 h17 (by decide) rfl rfl ?_
      refine ml_blk 2 (S' := (40, [(0, .ref a), (2, .int x2)], [.int x2, .int 41, .ref vd], M5)) rfl ?_
      refine ml_call (a := [.ref vd, .int 41, .int x2]) (rest := []) rfl (okc_t rfl rfl rfl hS14.1.1 h21 (by decide)) rfl rfl (tw_Ve_wrong hS14.1.1 h21 (by omega)) (fun v76 M77 h78 => ?_)
      obtain ⟨rfl, h78⟩ := h78
      have g80 := h78.2.gf (nin_cons (ykne h17 h21 (by decide)) nin_nil) g15
      have g81 := h78.2.gf (nin_cons (ykne h22 h21 (by decide)) nin_nil) g16
      have hS82 := hS14.tr h78 (by simp)
      show ml _ _ _ (43, [(0, .ref a), (2, .int x2)], [.int 0], M77) _
      exact ml_ret rfl (r_z (Or.inl rfl)) (⟨Y7, _, ⟨rfl, Or.inl rfl⟩, (hA13.sf hS82).le (by omega) (by omega), g81, Or.inl rfl⟩)
theorem AW.step {f : Nat → Int32} {n : Nat} {c i : Int32} {a : Int32} (h : AW f n (c.toInt - i.toInt).toNat a) (hi : ¬ c ≤ i) : (0 ≤ a.toInt ∧ a.toInt + 6 ≤ n ∧ 0 ≤ (sp_u4 n f (a + 2)).toInt ∧ a.toInt + 6 + (sp_u4 n f (a + 2)).toInt ≤ n) ∧ AW f n (c.toInt - (i + 1).toInt).toNat (a + 6 + sp_u4 n f (a + 2)) := by
  have h1 := i_nle hi
  have h2 := inc_lt (Int32.not_le.mp hi)
  rw [show (c.toInt - i.toInt).toNat = (c.toInt - (i + 1).toInt).toNat + 1 by omega] at h
  obtain ⟨a1, a2, a3, a4, a5⟩ := h
  exact ⟨⟨a1, a2, a3, a4⟩, a5⟩
theorem len_ok {f : Nat → Int32} {n : Nat} {a u kd l : Int32} (hn : n < 1073741824) (h : 0 ≤ a.toInt ∧ a.toInt + 6 ≤ n ∧ 0 ≤ (sp_u4 n f (a + 2)).toInt ∧ a.toInt + 6 + (sp_u4 n f (a + 2)).toInt ≤ n) (hu : u = a + 6 + sp_u4 n f (a + 2)) (hz : u = -1 ∨ (kd = 2 → 0 ≤ l.toInt ∧ l ≤ (a + 6 + sp_u4 n f (a + 2)) - (a + 6) - 8)) : kd = 2 → 0 ≤ l.toInt ∧ l.toInt ≤ n := by
  obtain ⟨h0, h1, h2, h3⟩ := h
  have e6 : (6 : Int32).toInt = 6 := rfl
  have e8 : (8 : Int32).toInt = 8 := rfl
  have d6 : (a + 6).toInt = a.toInt + 6 := by rw [i_add (by omega) (by omega), e6]
  have dl : (a + 6 + sp_u4 n f (a + 2)).toInt = a.toInt + 6 + (sp_u4 n f (a + 2)).toInt := by rw [i_add (by omega) (by omega), d6]
  rcases hz with hz | hz
  · rw [hz] at hu
    rw [← hu] at dl
    have : (-1 : Int32).toInt = -1 := rfl
    omega
  · intro e
    obtain ⟨k1, k2⟩ := hz e
    have k3 := i_le k2
    rw [i_sub (by rw [i_sub (by omega) (by omega)]; omega) (by rw [i_sub (by omega) (by omega)]; omega), i_sub (by omega) (by omega)] at k3
    omega

set_option maxHeartbeats 2000000 in
theorem tx_ofMethod {g : xe_G} {M : mi_H} {Y : yT} {a c b p vd da n me : Nat} {pp : List Nat}  (hW : WF g Y M) (hY0 : Y.1 a = some (0, [c, b, p, vd])) (hY1 : Y.1 c = some (3, [b, da, n])) (hY2 : Y.1 b = some (1, [da, n])) (hY3 : Y.1 p = some (7, pp)) (hY4 : Y.1 vd = some (10, [])) (hY5 : Y.1 me = some (6, [da, n])) {d : Nat} (hd : 5 ≤ d) : mt (mT g) d 40 [.ref a, .ref me] M (fun v M' => ∃ Y', (∃ x : Int32, v = some (.int x) ∧ (x = 0 ∨ x = 1)) ∧ sv g Y M Y' M' [a, vd, me] 2 23) := by
  obtain ⟨d, rfl⟩ : ∃ e, d = e + 1 := ⟨d - 1, by omega⟩
  have hS : sf g Y [a, vd, me] M M := sf.rf hW
  refine mt_in (b := mb_40 g) rfl rfl ?_
  show ml (mT g) d (mb_40 g).2 (0, [(0, .ref a), (1, .ref me)], [], M) _
  have hA : sv g Y M Y M [a, vd, me] 0 0 := sv.rf hW
  obtain ⟨cn, ma, hcn, hma, hc0, haw⟩ := hW.mem hY5
  have hn := hW.bn hY2
  refine ml_blk 2 (S' := (2, [(0, .ref a), (1, .ref me)], [.int 0, .ref a], M)) rfl ?_
  refine tp_put rfl hS.1 hY0 (by decide) rfl (⟨_, rfl⟩) rfl rfl (fun M1 hS2 f3 => ?_)
  have hS4 := hS.put hS2 f3 (by simp)
  have g5 := gf_fr (f3.1 me (ykne hY5 hY0 (by decide))) hcn
  have g6 := gf_fr (f3.1 me (ykne hY5 hY0 (by decide))) hma
  show ml _ _ _ (5, [(0, .ref a), (1, .ref me)], [], M1) _
  refine ml_st (S' := (6, [(0, .ref a), (1, .ref me)], [.ref me], M1)) rfl rfl rfl ?_
  refine ml_get (S' := (9, [(0, .ref a), (1, .ref me)], [.int ma], M1)) rfl g6 rfl ?_
  refine ml_st (S' := (10, [(2, .int ma), (0, .ref a), (1, .ref me)], [], M1)) rfl rfl rfl ?_
  refine ml_st (S' := (11, [(2, .int ma), (0, .ref a), (1, .ref me)], [.int 0], M1)) rfl rfl rfl ?_
  refine ml_st (S' := (12, [(0, .ref a), (1, .ref me), (2, .int ma), (3, .int 0)], [], M1)) rfl rfl rfl ?_
  have L_12 : ∀ (n_12 : Nat) (i12_2 : Int32) (i12_3 : Int32) (sq : Int32) (Y_12 : yT) (M_12 : mi_H) (nc_12 ns_12 : Nat), (2147483648 - i12_3.toInt).toNat ≤ n_12 → sv g Y M1 Y_12 M_12 [a, vd, me] nc_12 ns_12 → (mi_gf M_12 a 0 4 = some (.int sq) ∧ mi_gf M_12 me 6 4 = some (.int cn) ∧ AW (Y_12.2 da) n (cn.toInt - i12_3.toInt).toNat i12_2 ∧ ((nc_12 = 0 ∧ ns_12 = 0) ∨ (nc_12 ≤ 2 ∧ ns_12 ≤ 23 ∧ b2 sq))) → ml (mT g) d (mb_40 g).2 (12, [(0, .ref a), (1, .ref me), (2, .int i12_2), (3, .int i12_3)], [], M_12) (fun v M' => ∃ Y', (∃ x : Int32, v = some (.int x) ∧ (x = 0 ∨ x = 1)) ∧ sv g Y M Y' M' [a, vd, me] 2 23) := by
    intro n_12
    induction n_12 with
    | zero => intro i12_2 i12_3 sq Y_12 M_12 nc_12 ns_12 hn; exact (loop_zero hn).elim
    | succ n_12 ih_12 =>
      intro i12_2 i12_3 sq Y_12 M_12 nc_12 ns_12 hn_12 hL_12 hi_12
      have hT0_12 := (hA.sf hS4).tr hL_12
      have hS7 : sf g Y_12 [a, vd, me] M_12 M_12 := sf.rf hT0_12.1.1
      have h8 := (hL_12.1.2.1 _ _ hY0).1
      have h9 := (hL_12.1.2.1 _ _ hY1).1
      have h10 := (hL_12.1.2.1 _ _ hY2).1
      have h11 := (hL_12.1.2.1 _ _ hY3).1
      have h12 := (hL_12.1.2.1 _ _ hY4).1
      have h13 := (hL_12.1.2.1 _ _ hY5).1
      have hda12 := hS7.1.1.lnk h10 (by decide)
      refine ml_blk 2 (S' := (14, [(0, .ref a), (1, .ref me), (2, .int i12_2), (3, .int i12_3)], [.ref me, .int i12_3], M_12)) rfl ?_
      refine ml_get (S' := (17, [(0, .ref a), (1, .ref me), (2, .int i12_2), (3, .int i12_3)], [.int cn, .int i12_3], M_12)) rfl hi_12.2.1 rfl ?_
      refine ml_if2 (S1 := (154, [(0, .ref a), (1, .ref me), (2, .int i12_2), (3, .int i12_3)], [], M_12)) (S2 := (20, [(0, .ref a), (1, .ref me), (2, .int i12_2), (3, .int i12_3)], [], M_12)) rfl rfl rfl (fun c_17 => ?_) (fun c_17 => ?_)
      · have c_17 : cn ≤ i12_3 := of_decide_eq_true c_17
        refine ml_blk 2 (S' := (156, [(0, .ref a), (1, .ref me), (2, .int i12_2), (3, .int i12_3)], [.ref a, .ref me], M_12)) rfl ?_
        refine ml_get (S' := (159, [(0, .ref a), (1, .ref me), (2, .int i12_2), (3, .int i12_3)], [.int sq, .ref me], M_12)) rfl hi_12.1 rfl ?_
        refine ml_blk 2 (S' := (162, [(0, .ref a), (1, .ref me), (2, .int i12_2), (3, .int i12_3)], [.int (sq &&& 12), .ref me], M_12)) rfl ?_
        refine ml_call (a := [.int (sq &&& 12)]) (rest := [.ref me]) rfl (rfl) rfl rfl (tw_J_bitCount hS7.1.1  (by omega)) (fun v14 M15 h16 => ?_)
        obtain ⟨⟨u17, rfl⟩, h16⟩ := h16
        rw [h16]
        show ml _ _ _ (165, [(0, .ref a), (1, .ref me), (2, .int i12_2), (3, .int i12_3)], [.int u17, .ref me], M_12) _
        refine tp_put rfl hS7.1 h13 (by decide) rfl (⟨_, rfl⟩) rfl rfl (fun M18 hS19 f20 => ?_)
        have hS21 := hS7.put hS19 f20 (by simp)
        have g22 := gf_fr (f20.1 a (ykne h8 h13 (by decide))) hi_12.1
        have g23 := f20.2.1 4 _ (by decide) hi_12.2.1
        show ml _ _ _ (168, [(0, .ref a), (1, .ref me), (2, .int i12_2), (3, .int i12_3)], [], M18) _
        refine ml_st (S' := (169, [(0, .ref a), (1, .ref me), (2, .int i12_2), (3, .int i12_3)], [.int 1], M18)) rfl rfl rfl ?_
        exact ml_ret rfl (r_z (Or.inr rfl)) (⟨Y_12, ⟨_, rfl, Or.inr rfl⟩, (hT0_12.sf hS21).le (by have hc : nc_12 ≤ 2 ∧ ns_12 ≤ 23 := hi_12.2.2.2.elim (fun q => ⟨by omega, by omega⟩) (fun q => ⟨q.1, q.2.1⟩); omega) (by have hc : nc_12 ≤ 2 ∧ ns_12 ≤ 23 := hi_12.2.2.2.elim (fun q => ⟨by omega, by omega⟩) (fun q => ⟨q.1, q.2.1⟩); omega)⟩)
      · have c_17 : ¬ (cn ≤ i12_3) := of_decide_eq_false c_17
        obtain ⟨hst, haw2⟩ := AW.step hi_12.2.2.1 c_17
        refine ml_blk 2 (S' := (22, [(0, .ref a), (1, .ref me), (2, .int i12_2), (3, .int i12_3)], [.ref a, .ref a], M_12)) rfl ?_
        refine tg_ref (S' := (25, [(0, .ref a), (1, .ref me), (2, .int i12_2), (3, .int i12_3)], [.ref b, .ref a], M_12)) rfl hS7.1.1 h8 (by decide) rfl rfl ?_
        refine ml_st (S' := (26, [(0, .ref a), (1, .ref me), (2, .int i12_2), (3, .int i12_3)], [.int i12_2, .ref b, .ref a], M_12)) rfl rfl rfl ?_
        refine ml_call (a := [.ref b, .int i12_2]) (rest := [.ref a]) rfl (okc_t rfl rfl rfl hS7.1.1 h10 (by decide)) rfl rfl (ct_u2 (hS7.1.1.bytes h10).1 (by omega)) (fun v24 M25 h26 => ?_)
        obtain ⟨rfl, h26⟩ := h26
        rw [h26]
        show ml _ _ _ (29, [(0, .ref a), (1, .ref me), (2, .int i12_2), (3, .int i12_3)], [.int (sp_u2 n (Y_12.2 da) i12_2), .ref a], M_12) _
        refine ml_call (a := [.ref a, .int (sp_u2 n (Y_12.2 da) i12_2)]) (rest := []) rfl (okc_t rfl rfl rfl hS7.1.1 h8 (by decide)) rfl rfl (tw_At_methodKind hS7.1.1 h8 h9 h10 h11 h12 (by omega)) (fun v27 M28 h29 => ?_)
        obtain ⟨⟨u30, rfl⟩, h29⟩ := h29
        rw [h29]
        show ml _ _ _ (32, [(0, .ref a), (1, .ref me), (2, .int i12_2), (3, .int i12_3)], [.int u30], M_12) _
        refine ml_st (S' := (34, [(4, .int u30), (0, .ref a), (1, .ref me), (2, .int i12_2), (3, .int i12_3)], [], M_12)) rfl rfl rfl ?_
        refine ml_blk 3 (S' := (38, [(4, .int u30), (0, .ref a), (1, .ref me), (2, .int i12_2), (3, .int i12_3)], [.int u30, .int i12_2, .ref a], M_12)) rfl ?_
        refine ml_call (a := [.ref a, .int i12_2, .int u30]) (rest := []) rfl (okc_t rfl rfl rfl hS7.1.1 h8 (by decide)) rfl rfl (tx_isNew hS7.1.1 h8 h9 h10 h11 h12 hi_12.1 (by omega)) (fun v31 M32 h33 => ?_)
        obtain ⟨⟨u34, rfl, z35⟩, h33⟩ := h33
        have g36 := h33.2.gf (nin_cons (ykne h13 h8 (by decide)) (nin_cons (ykne h13 h12 (by decide)) nin_nil)) hi_12.2.1
        have hS37 := hS7.tr h33 (by simp)
        show ml _ _ _ (41, [(4, .int u30), (0, .ref a), (1, .ref me), (2, .int i12_2), (3, .int i12_3)], [.int u34], M32) _
        refine ml_if (S1 := (46, [(4, .int u30), (0, .ref a), (1, .ref me), (2, .int i12_2), (3, .int i12_3)], [], M32)) (S2 := (44, [(4, .int u30), (0, .ref a), (1, .ref me), (2, .int i12_2), (3, .int i12_3)], [], M32)) rfl rfl rfl (fun c_41 => ?_) (fun c_41 => ?_)
        · have c_41 : ¬ u34 = 0 := of_decide_eq_true c_41
          obtain ⟨-, s38, hs1, hk1, hk2⟩ := z35.resolve_left c_41
          refine ml_st (S' := (48, [(4, .int u30), (0, .ref a), (1, .ref me), (2, .int i12_2), (3, .int i12_3)], [.int u30], M32)) rfl rfl rfl ?_
          have J_85 : (u30 = 2 → 0 ≤ (sp_u4 n (Y_12.2 da) ((i12_2 + 6) + 4)).toInt ∧ (sp_u4 n (Y_12.2 da) ((i12_2 + 6) + 4)).toInt ≤ n) → ml (mT g) d (mb_40 g).2 (85, [(0, .ref a), (1, .ref me), (2, .int i12_2), (3, .int i12_3), (4, .int u30)], [], M32) (fun v M' => ∃ Y', (∃ x : Int32, v = some (.int x) ∧ (x = 0 ∨ x = 1)) ∧ sv g Y M Y' M' [a, vd, me] 2 23) := by
            intro hj_85
            refine ml_blk 2 (S' := (88, [(0, .ref a), (1, .ref me), (2, .int i12_2), (3, .int i12_3), (4, .int u30)], [.int 2, .int u30], M32)) rfl ?_
            refine ml_if2 (S1 := (102, [(0, .ref a), (1, .ref me), (2, .int i12_2), (3, .int i12_3), (4, .int u30)], [], M32)) (S2 := (91, [(0, .ref a), (1, .ref me), (2, .int i12_2), (3, .int i12_3), (4, .int u30)], [], M32)) rfl rfl rfl (fun c_88 => ?_) (fun c_88 => ?_)
            · have c_88 : ¬ u30 = 2 := of_decide_eq_true c_88
              refine ml_blk 2 (S' := (105, [(0, .ref a), (1, .ref me), (2, .int i12_2), (3, .int i12_3), (4, .int u30)], [.int 3, .int u30], M32)) rfl ?_
              refine ml_if2 (S1 := (142, [(0, .ref a), (1, .ref me), (2, .int i12_2), (3, .int i12_3)], [], M32)) (S2 := (108, [(0, .ref a), (1, .ref me), (2, .int i12_2), (3, .int i12_3), (4, .int u30)], [], M32)) rfl rfl rfl (fun c_105 => ?_) (fun c_105 => ?_)
              · have c_105 : ¬ u30 = 3 := of_decide_eq_true c_105
                refine ml_blk 2 (S' := (144, [(0, .ref a), (1, .ref me), (2, .int i12_2), (3, .int i12_3)], [.int i12_2, .ref a], M32)) rfl ?_
                refine ml_call (a := [.ref a, .int i12_2]) (rest := []) rfl (okc_t rfl rfl rfl hS37.1.1 h8 (by decide)) rfl rfl (tx_behind hS37.1.1 h8 h9 h10 h11 h12 (by omega)) (fun v39 M40 h41 => ?_)
                obtain ⟨rfl, h41⟩ := h41
                rw [h41]
                show ml _ _ _ (147, [(0, .ref a), (1, .ref me), (2, .int i12_2), (3, .int i12_3)], [.int ((i12_2 + 6) + (sp_u4 n (Y_12.2 da) (i12_2 + 2)))], M32) _
                refine ml_st (S' := (148, [(2, .int ((i12_2 + 6) + (sp_u4 n (Y_12.2 da) (i12_2 + 2)))), (0, .ref a), (1, .ref me), (3, .int i12_3)], [], M32)) rfl rfl rfl ?_
                refine ml_st (S' := (151, [(3, .int (i12_3 + 1)), (2, .int ((i12_2 + 6) + (sp_u4 n (Y_12.2 da) (i12_2 + 2)))), (0, .ref a), (1, .ref me)], [], M32)) rfl rfl rfl ?_
                refine ml_st (S' := (12, [(0, .ref a), (1, .ref me), (2, .int ((i12_2 + 6) + (sp_u4 n (Y_12.2 da) (i12_2 + 2)))), (3, .int (i12_3 + 1))], [], M32)) rfl rfl rfl ?_
                exact ih_12 ((i12_2 + 6) + (sp_u4 n (Y_12.2 da) (i12_2 + 2))) (i12_3 + 1) s38 _ _ _ _ (loop_inc (Int32.not_le.mp c_17) hn_12) (hL_12.sf hS37) (⟨hs1, g36, (show AW (Y_12.2 da) n _ _ from (rfl : Y_12.2 da = Y_12.2 da) ▸ haw2), hi_12.2.2.2.imp id (fun q => ⟨q.1, q.2.1, hk1 q.2.2⟩)⟩)
              · have c_105 : ¬ (¬ u30 = 3) := of_decide_eq_false c_105
                refine ml_blk 2 (S' := (110, [(0, .ref a), (1, .ref me), (2, .int i12_2), (3, .int i12_3), (4, .int u30)], [.ref a, .ref me], M32)) rfl ?_
                refine tg_ref (S' := (113, [(0, .ref a), (1, .ref me), (2, .int i12_2), (3, .int i12_3), (4, .int u30)], [.ref b, .ref me], M32)) rfl hS37.1.1 h8 (by decide) rfl rfl ?_
                refine ml_blk 3 (S' := (117, [(0, .ref a), (1, .ref me), (2, .int i12_2), (3, .int i12_3), (4, .int u30)], [.int (i12_2 + 6), .ref b, .ref me], M32)) rfl ?_
                refine ml_call (a := [.ref b, .int (i12_2 + 6)]) (rest := [.ref me]) rfl (okc_t rfl rfl rfl hS37.1.1 h10 (by decide)) rfl rfl (tq_u2 hS37.1.1 h10 (by omega)) (fun v43 M44 h45 => ?_)
                obtain ⟨⟨u46, rfl⟩, h45⟩ := h45
                rw [h45]
                show ml _ _ _ (120, [(0, .ref a), (1, .ref me), (2, .int i12_2), (3, .int i12_3), (4, .int u30)], [.int u46, .ref me], M32) _
                refine tp_put rfl hS37.1 h13 (by decide) rfl (⟨_, rfl⟩) rfl rfl (fun M47 hS48 f49 => ?_)
                have hS50 := hS37.put hS48 f49 (by simp)
                have g51 := gf_fr (f49.1 a (ykne h8 h13 (by decide))) hs1
                have g52 := f49.2.1 4 _ (by decide) g36
                show ml _ _ _ (123, [(0, .ref a), (1, .ref me), (2, .int i12_2), (3, .int i12_3), (4, .int u30)], [], M47) _
                refine ml_blk 2 (S' := (125, [(0, .ref a), (1, .ref me), (2, .int i12_2), (3, .int i12_3), (4, .int u30)], [.int i12_2, .ref a], M47)) rfl ?_
                refine ml_call (a := [.ref a, .int i12_2]) (rest := []) rfl (okc_t rfl rfl rfl hS50.1.1 h8 (by decide)) rfl rfl (tw_At_areClasses hS50.1.1 h8 h9 h10 h11 h12 (by omega)) (fun v53 M54 h55 => ?_)
                obtain ⟨⟨u56, rfl, z57⟩, h55⟩ := h55
                rw [h55]
                show ml _ _ _ (128, [(0, .ref a), (1, .ref me), (2, .int i12_2), (3, .int i12_3), (4, .int u30)], [.int u56], M47) _
                refine ml_if (S1 := (142, [(0, .ref a), (1, .ref me), (2, .int i12_2), (3, .int i12_3)], [], M47)) (S2 := (131, [(0, .ref a), (1, .ref me), (2, .int i12_2), (3, .int i12_3), (4, .int u30)], [], M47)) rfl rfl rfl (fun c_128 => ?_) (fun c_128 => ?_)
                · have c_128 : ¬ u56 = 0 := of_decide_eq_true c_128
                  refine ml_blk 2 (S' := (144, [(0, .ref a), (1, .ref me), (2, .int i12_2), (3, .int i12_3)], [.int i12_2, .ref a], M47)) rfl ?_
                  refine ml_call (a := [.ref a, .int i12_2]) (rest := []) rfl (okc_t rfl rfl rfl hS50.1.1 h8 (by decide)) rfl rfl (tx_behind hS50.1.1 h8 h9 h10 h11 h12 (by omega)) (fun v58 M59 h60 => ?_)
                  obtain ⟨rfl, h60⟩ := h60
                  rw [h60]
                  show ml _ _ _ (147, [(0, .ref a), (1, .ref me), (2, .int i12_2), (3, .int i12_3)], [.int ((i12_2 + 6) + (sp_u4 n (Y_12.2 da) (i12_2 + 2)))], M47) _
                  refine ml_st (S' := (148, [(2, .int ((i12_2 + 6) + (sp_u4 n (Y_12.2 da) (i12_2 + 2)))), (0, .ref a), (1, .ref me), (3, .int i12_3)], [], M47)) rfl rfl rfl ?_
                  refine ml_st (S' := (151, [(3, .int (i12_3 + 1)), (2, .int ((i12_2 + 6) + (sp_u4 n (Y_12.2 da) (i12_2 + 2)))), (0, .ref a), (1, .ref me)], [], M47)) rfl rfl rfl ?_
                  refine ml_st (S' := (12, [(0, .ref a), (1, .ref me), (2, .int ((i12_2 + 6) + (sp_u4 n (Y_12.2 da) (i12_2 + 2)))), (3, .int (i12_3 + 1))], [], M47)) rfl rfl rfl ?_
                  exact ih_12 ((i12_2 + 6) + (sp_u4 n (Y_12.2 da) (i12_2 + 2))) (i12_3 + 1) s38 _ _ _ _ (loop_inc (Int32.not_le.mp c_17) hn_12) (hL_12.sf hS50) (⟨g51, g52, (show AW (Y_12.2 da) n _ _ from (rfl : Y_12.2 da = Y_12.2 da) ▸ haw2), hi_12.2.2.2.imp id (fun q => ⟨q.1, q.2.1, hk1 q.2.2⟩)⟩)
                · have c_128 : ¬ (¬ u56 = 0) := of_decide_eq_false c_128
                  refine ml_st (S' := (132, [(0, .ref a), (1, .ref me), (2, .int i12_2), (3, .int i12_3), (4, .int u30)], [.ref a], M47)) rfl rfl rfl ?_
                  refine tg_ref (S' := (135, [(0, .ref a), (1, .ref me), (2, .int i12_2), (3, .int i12_3), (4, .int u30)], [.ref vd], M47)) rfl hS50.1.1 h8 (by decide) rfl rfl ?_
                  refine ml_blk 2 (S' := (138, [(0, .ref a), (1, .ref me), (2, .int i12_2), (3, .int i12_3), (4, .int u30)], [.int i12_2, .int 32, .ref vd], M47)) rfl ?_
                  refine ml_call (a := [.ref vd, .int 32, .int i12_2]) (rest := []) rfl (okc_t rfl rfl rfl hS50.1.1 h12 (by decide)) rfl rfl (tw_Ve_wrong hS50.1.1 h12 (by omega)) (fun v62 M63 h64 => ?_)
                  obtain ⟨rfl, h64⟩ := h64
                  have g66 := h64.2.gf (nin_cons (ykne h8 h12 (by decide)) nin_nil) g51
                  have g67 := h64.2.gf (nin_cons (ykne h13 h12 (by decide)) nin_nil) g52
                  have hS68 := hS50.tr h64 (by simp)
                  show ml _ _ _ (141, [(0, .ref a), (1, .ref me), (2, .int i12_2), (3, .int i12_3), (4, .int u30)], [.int 0], M63) _
                  exact ml_ret rfl (r_z (Or.inl rfl)) (⟨Y_12, ⟨_, rfl, Or.inl rfl⟩, (hT0_12.sf hS68).le (by have hc : nc_12 ≤ 2 ∧ ns_12 ≤ 23 := hi_12.2.2.2.elim (fun q => ⟨by omega, by omega⟩) (fun q => ⟨q.1, q.2.1⟩); omega) (by have hc : nc_12 ≤ 2 ∧ ns_12 ≤ 23 := hi_12.2.2.2.elim (fun q => ⟨by omega, by omega⟩) (fun q => ⟨q.1, q.2.1⟩); omega)⟩)
            · have c_88 : ¬ (¬ u30 = 2) := of_decide_eq_false c_88
              refine ml_blk 3 (S' := (94, [(0, .ref a), (1, .ref me), (2, .int i12_2), (3, .int i12_3), (4, .int u30)], [.int i12_2, .ref me, .ref a], M32)) rfl ?_
              refine ml_call (a := [.ref a, .ref me, .int i12_2]) (rest := []) rfl (okc_t rfl rfl rfl hS37.1.1 h8 (by decide)) rfl rfl (tx_codeHolds hS37.1.1 h8 h9 h10 h11 h12 h13 hs1 g36 ((hj_85 (Decidable.not_not.mp c_88)).1) ((hj_85 (Decidable.not_not.mp c_88)).2) (by omega)) (fun v69 M70 h71 => ?_)
              obtain ⟨Y73, u72, ⟨rfl, z74⟩, hv75, g76, hb77⟩ := h71
              have hA78 := (hT0_12.sf hS37).tr hv75
              have hA79 := (hL_12.sf hS37).tr hv75
              have hS80 : sf g Y73 [a, vd, me] M70 M70 := sf.rf hA78.1.1
              have h81 := (hv75.1.2.1 _ _ h8).1
              have h82 := (hv75.1.2.1 _ _ h9).1
              have h83 := (hv75.1.2.1 _ _ h10).1
              have h84 := (hv75.1.2.1 _ _ h11).1
              have h85 := (hv75.1.2.1 _ _ h12).1
              have h86 := (hv75.1.2.1 _ _ h13).1
              show ml _ _ _ (97, [(0, .ref a), (1, .ref me), (2, .int i12_2), (3, .int i12_3), (4, .int u30)], [.int u72], M70) _
              refine ml_if (S1 := (102, [(0, .ref a), (1, .ref me), (2, .int i12_2), (3, .int i12_3), (4, .int u30)], [], M70)) (S2 := (100, [(0, .ref a), (1, .ref me), (2, .int i12_2), (3, .int i12_3), (4, .int u30)], [], M70)) rfl rfl rfl (fun c_97 => ?_) (fun c_97 => ?_)
              · have c_97 : ¬ u72 = 0 := of_decide_eq_true c_97
                obtain ⟨s87, hs2, hk3⟩ := hb77.resolve_left c_97
                refine ml_blk 2 (S' := (105, [(0, .ref a), (1, .ref me), (2, .int i12_2), (3, .int i12_3), (4, .int u30)], [.int 3, .int u30], M70)) rfl ?_
                refine ml_if2 (S1 := (142, [(0, .ref a), (1, .ref me), (2, .int i12_2), (3, .int i12_3)], [], M70)) (S2 := (108, [(0, .ref a), (1, .ref me), (2, .int i12_2), (3, .int i12_3), (4, .int u30)], [], M70)) rfl rfl rfl (fun c_105 => ?_) (fun c_105 => ?_)
                · have c_105 : ¬ u30 = 3 := of_decide_eq_true c_105
                  refine ml_blk 2 (S' := (144, [(0, .ref a), (1, .ref me), (2, .int i12_2), (3, .int i12_3)], [.int i12_2, .ref a], M70)) rfl ?_
                  refine ml_call (a := [.ref a, .int i12_2]) (rest := []) rfl (okc_t rfl rfl rfl hS80.1.1 h81 (by decide)) rfl rfl (tx_behind hS80.1.1 h81 h82 h83 h84 h85 (by omega)) (fun v88 M89 h90 => ?_)
                  obtain ⟨rfl, h90⟩ := h90
                  rw [h90]
                  show ml _ _ _ (147, [(0, .ref a), (1, .ref me), (2, .int i12_2), (3, .int i12_3)], [.int ((i12_2 + 6) + (sp_u4 n (Y73.2 da) (i12_2 + 2)))], M70) _
                  refine ml_st (S' := (148, [(2, .int ((i12_2 + 6) + (sp_u4 n (Y73.2 da) (i12_2 + 2)))), (0, .ref a), (1, .ref me), (3, .int i12_3)], [], M70)) rfl rfl rfl ?_
                  refine ml_st (S' := (151, [(3, .int (i12_3 + 1)), (2, .int ((i12_2 + 6) + (sp_u4 n (Y73.2 da) (i12_2 + 2)))), (0, .ref a), (1, .ref me)], [], M70)) rfl rfl rfl ?_
                  refine ml_st (S' := (12, [(0, .ref a), (1, .ref me), (2, .int ((i12_2 + 6) + (sp_u4 n (Y73.2 da) (i12_2 + 2)))), (3, .int (i12_3 + 1))], [], M70)) rfl rfl rfl ?_
                  exact ih_12 ((i12_2 + 6) + (sp_u4 n (Y73.2 da) (i12_2 + 2))) (i12_3 + 1) s87 _ _ _ _ (loop_inc (Int32.not_le.mp c_17) hn_12) (hA79.sf hS80) (⟨hs2, g76, (show AW (Y73.2 da) n _ _ from ((hv75.1.2.1 _ _ hda12).2 : Y73.2 da = Y_12.2 da) ▸ haw2), Or.inr (by have hb0 := hk2 (Decidable.not_not.mp c_88); have hc := hi_12.2.2.2.resolve_right (fun q => hb0.1 q.2.2); exact ⟨by omega, by omega, hk3 hb0.2⟩)⟩)
                · have c_105 : ¬ (¬ u30 = 3) := of_decide_eq_false c_105
                  refine ml_blk 2 (S' := (110, [(0, .ref a), (1, .ref me), (2, .int i12_2), (3, .int i12_3), (4, .int u30)], [.ref a, .ref me], M70)) rfl ?_
                  refine tg_ref (S' := (113, [(0, .ref a), (1, .ref me), (2, .int i12_2), (3, .int i12_3), (4, .int u30)], [.ref b, .ref me], M70)) rfl hS80.1.1 h81 (by decide) rfl rfl ?_
                  refine ml_blk 3 (S' := (117, [(0, .ref a), (1, .ref me), (2, .int i12_2), (3, .int i12_3), (4, .int u30)], [.int (i12_2 + 6), .ref b, .ref me], M70)) rfl ?_
                  refine ml_call (a := [.ref b, .int (i12_2 + 6)]) (rest := [.ref me]) rfl (okc_t rfl rfl rfl hS80.1.1 h83 (by decide)) rfl rfl (tq_u2 hS80.1.1 h83 (by omega)) (fun v92 M93 h94 => ?_)
                  obtain ⟨⟨u95, rfl⟩, h94⟩ := h94
                  rw [h94]
                  show ml _ _ _ (120, [(0, .ref a), (1, .ref me), (2, .int i12_2), (3, .int i12_3), (4, .int u30)], [.int u95, .ref me], M70) _
                  refine tp_put rfl hS80.1 h86 (by decide) rfl (⟨_, rfl⟩) rfl rfl (fun M96 hS97 f98 => ?_)
                  have hS99 := hS80.put hS97 f98 (by simp)
                  have g100 := gf_fr (f98.1 a (ykne h81 h86 (by decide))) hs2
                  have g101 := f98.2.1 4 _ (by decide) g76
                  show ml _ _ _ (123, [(0, .ref a), (1, .ref me), (2, .int i12_2), (3, .int i12_3), (4, .int u30)], [], M96) _
                  refine ml_blk 2 (S' := (125, [(0, .ref a), (1, .ref me), (2, .int i12_2), (3, .int i12_3), (4, .int u30)], [.int i12_2, .ref a], M96)) rfl ?_
                  refine ml_call (a := [.ref a, .int i12_2]) (rest := []) rfl (okc_t rfl rfl rfl hS99.1.1 h81 (by decide)) rfl rfl (tw_At_areClasses hS99.1.1 h81 h82 h83 h84 h85 (by omega)) (fun v102 M103 h104 => ?_)
                  obtain ⟨⟨u105, rfl, z106⟩, h104⟩ := h104
                  rw [h104]
                  show ml _ _ _ (128, [(0, .ref a), (1, .ref me), (2, .int i12_2), (3, .int i12_3), (4, .int u30)], [.int u105], M96) _
                  refine ml_if (S1 := (142, [(0, .ref a), (1, .ref me), (2, .int i12_2), (3, .int i12_3)], [], M96)) (S2 := (131, [(0, .ref a), (1, .ref me), (2, .int i12_2), (3, .int i12_3), (4, .int u30)], [], M96)) rfl rfl rfl (fun c_128 => ?_) (fun c_128 => ?_)
                  · have c_128 : ¬ u105 = 0 := of_decide_eq_true c_128
                    refine ml_blk 2 (S' := (144, [(0, .ref a), (1, .ref me), (2, .int i12_2), (3, .int i12_3)], [.int i12_2, .ref a], M96)) rfl ?_
                    refine ml_call (a := [.ref a, .int i12_2]) (rest := []) rfl (okc_t rfl rfl rfl hS99.1.1 h81 (by decide)) rfl rfl (tx_behind hS99.1.1 h81 h82 h83 h84 h85 (by omega)) (fun v107 M108 h109 => ?_)
                    obtain ⟨rfl, h109⟩ := h109
                    rw [h109]
                    show ml _ _ _ (147, [(0, .ref a), (1, .ref me), (2, .int i12_2), (3, .int i12_3)], [.int ((i12_2 + 6) + (sp_u4 n (Y73.2 da) (i12_2 + 2)))], M96) _
                    refine ml_st (S' := (148, [(2, .int ((i12_2 + 6) + (sp_u4 n (Y73.2 da) (i12_2 + 2)))), (0, .ref a), (1, .ref me), (3, .int i12_3)], [], M96)) rfl rfl rfl ?_
                    refine ml_st (S' := (151, [(3, .int (i12_3 + 1)), (2, .int ((i12_2 + 6) + (sp_u4 n (Y73.2 da) (i12_2 + 2)))), (0, .ref a), (1, .ref me)], [], M96)) rfl rfl rfl ?_
                    refine ml_st (S' := (12, [(0, .ref a), (1, .ref me), (2, .int ((i12_2 + 6) + (sp_u4 n (Y73.2 da) (i12_2 + 2)))), (3, .int (i12_3 + 1))], [], M96)) rfl rfl rfl ?_
                    exact ih_12 ((i12_2 + 6) + (sp_u4 n (Y73.2 da) (i12_2 + 2))) (i12_3 + 1) s87 _ _ _ _ (loop_inc (Int32.not_le.mp c_17) hn_12) (hA79.sf hS99) (⟨g100, g101, (show AW (Y73.2 da) n _ _ from ((hv75.1.2.1 _ _ hda12).2 : Y73.2 da = Y_12.2 da) ▸ haw2), Or.inr (by have hb0 := hk2 (Decidable.not_not.mp c_88); have hc := hi_12.2.2.2.resolve_right (fun q => hb0.1 q.2.2); exact ⟨by omega, by omega, hk3 hb0.2⟩)⟩)
                  · have c_128 : ¬ (¬ u105 = 0) := of_decide_eq_false c_128
                    refine ml_st (S' := (132, [(0, .ref a), (1, .ref me), (2, .int i12_2), (3, .int i12_3), (4, .int u30)], [.ref a], M96)) rfl rfl rfl ?_
                    refine tg_ref (S' := (135, [(0, .ref a), (1, .ref me), (2, .int i12_2), (3, .int i12_3), (4, .int u30)], [.ref vd], M96)) rfl hS99.1.1 h81 (by decide) rfl rfl ?_
                    refine ml_blk 2 (S' := (138, [(0, .ref a), (1, .ref me), (2, .int i12_2), (3, .int i12_3), (4, .int u30)], [.int i12_2, .int 32, .ref vd], M96)) rfl ?_
                    refine ml_call (a := [.ref vd, .int 32, .int i12_2]) (rest := []) rfl (okc_t rfl rfl rfl hS99.1.1 h85 (by decide)) rfl rfl (tw_Ve_wrong hS99.1.1 h85 (by omega)) (fun v111 M112 h113 => ?_)
                    obtain ⟨rfl, h113⟩ := h113
                    have g115 := h113.2.gf (nin_cons (ykne h81 h85 (by decide)) nin_nil) g100
                    have g116 := h113.2.gf (nin_cons (ykne h86 h85 (by decide)) nin_nil) g101
                    have hS117 := hS99.tr h113 (by simp)
                    show ml _ _ _ (141, [(0, .ref a), (1, .ref me), (2, .int i12_2), (3, .int i12_3), (4, .int u30)], [.int 0], M112) _
                    exact ml_ret rfl (r_z (Or.inl rfl)) (⟨Y73, ⟨_, rfl, Or.inl rfl⟩, (hA78.sf hS117).le (by have hb0 := hk2 (Decidable.not_not.mp c_88); have hc := hi_12.2.2.2.resolve_right (fun q => hb0.1 q.2.2); omega) (by have hb0 := hk2 (Decidable.not_not.mp c_88); have hc := hi_12.2.2.2.resolve_right (fun q => hb0.1 q.2.2); omega)⟩)
              · have c_97 : ¬ (¬ u72 = 0) := of_decide_eq_false c_97
                refine ml_st (S' := (101, [(0, .ref a), (1, .ref me), (2, .int i12_2), (3, .int i12_3), (4, .int u30)], [.int 0], M70)) rfl rfl rfl ?_
                exact ml_ret rfl (r_z (Or.inl rfl)) (⟨Y73, ⟨_, rfl, Or.inl rfl⟩, (hA78.sf hS80).le (by have hb0 := hk2 (Decidable.not_not.mp c_88); have hc := hi_12.2.2.2.resolve_right (fun q => hb0.1 q.2.2); omega) (by have hb0 := hk2 (Decidable.not_not.mp c_88); have hc := hi_12.2.2.2.resolve_right (fun q => hb0.1 q.2.2); omega)⟩)
          refine ml_if (S1 := (85, [(0, .ref a), (1, .ref me), (2, .int i12_2), (3, .int i12_3), (4, .int u30)], [], M32)) (S2 := (51, [(4, .int u30), (0, .ref a), (1, .ref me), (2, .int i12_2), (3, .int i12_3)], [], M32)) rfl rfl rfl (fun c_48 => ?_) (fun c_48 => ?_)
          · have c_48 : u30 = 0 := of_decide_eq_true c_48
            exact J_85 (fun e => absurd (e.symm.trans c_48) (by decide))
          · have c_48 : ¬ (u30 = 0) := of_decide_eq_false c_48
            refine ml_blk 3 (S' := (55, [(4, .int u30), (0, .ref a), (1, .ref me), (2, .int i12_2), (3, .int i12_3)], [.int i12_2, .int u30, .ref a], M32)) rfl ?_
            refine ml_blk 3 (S' := (59, [(4, .int u30), (0, .ref a), (1, .ref me), (2, .int i12_2), (3, .int i12_3)], [.ref a, .int (i12_2 + 6), .int u30, .ref a], M32)) rfl ?_
            refine ml_st (S' := (60, [(4, .int u30), (0, .ref a), (1, .ref me), (2, .int i12_2), (3, .int i12_3)], [.int i12_2, .ref a, .int (i12_2 + 6), .int u30, .ref a], M32)) rfl rfl rfl ?_
            refine ml_call (a := [.ref a, .int i12_2]) (rest := [.int (i12_2 + 6), .int u30, .ref a]) rfl (okc_t rfl rfl rfl hS37.1.1 h8 (by decide)) rfl rfl (tx_behind hS37.1.1 h8 h9 h10 h11 h12 (by omega)) (fun v118 M119 h120 => ?_)
            obtain ⟨rfl, h120⟩ := h120
            rw [h120]
            show ml _ _ _ (63, [(4, .int u30), (0, .ref a), (1, .ref me), (2, .int i12_2), (3, .int i12_3)], [.int ((i12_2 + 6) + (sp_u4 n (Y_12.2 da) (i12_2 + 2))), .int (i12_2 + 6), .int u30, .ref a], M32) _
            refine ml_call (a := [.ref a, .int u30, .int (i12_2 + 6), .int ((i12_2 + 6) + (sp_u4 n (Y_12.2 da) (i12_2 + 2)))]) (rest := []) rfl (okc_t rfl rfl rfl hS37.1.1 h8 (by decide)) rfl rfl (tx_formEnd hS37.1.1 h8 h9 h10 h11 h12 (by omega)) (fun v122 M123 h124 => ?_)
            obtain ⟨⟨u125, rfl, z126⟩, h124⟩ := h124
            rw [h124]
            show ml _ _ _ (66, [(4, .int u30), (0, .ref a), (1, .ref me), (2, .int i12_2), (3, .int i12_3)], [.int u125], M32) _
            refine ml_blk 2 (S' := (68, [(4, .int u30), (0, .ref a), (1, .ref me), (2, .int i12_2), (3, .int i12_3)], [.int i12_2, .ref a, .int u125], M32)) rfl ?_
            refine ml_call (a := [.ref a, .int i12_2]) (rest := [.int u125]) rfl (okc_t rfl rfl rfl hS37.1.1 h8 (by decide)) rfl rfl (tx_behind hS37.1.1 h8 h9 h10 h11 h12 (by omega)) (fun v127 M128 h129 => ?_)
            obtain ⟨rfl, h129⟩ := h129
            rw [h129]
            show ml _ _ _ (71, [(4, .int u30), (0, .ref a), (1, .ref me), (2, .int i12_2), (3, .int i12_3)], [.int ((i12_2 + 6) + (sp_u4 n (Y_12.2 da) (i12_2 + 2))), .int u125], M32) _
            refine ml_if2 (S1 := (85, [(0, .ref a), (1, .ref me), (2, .int i12_2), (3, .int i12_3), (4, .int u30)], [], M32)) (S2 := (74, [(4, .int u30), (0, .ref a), (1, .ref me), (2, .int i12_2), (3, .int i12_3)], [], M32)) rfl rfl rfl (fun c_71 => ?_) (fun c_71 => ?_)
            · have c_71 : u125 = ((i12_2 + 6) + (sp_u4 n (Y_12.2 da) (i12_2 + 2))) := of_decide_eq_true c_71
              exact J_85 (len_ok hn hst c_71 z126)
            · have c_71 : ¬ (u125 = ((i12_2 + 6) + (sp_u4 n (Y_12.2 da) (i12_2 + 2)))) := of_decide_eq_false c_71
              refine ml_st (S' := (75, [(4, .int u30), (0, .ref a), (1, .ref me), (2, .int i12_2), (3, .int i12_3)], [.ref a], M32)) rfl rfl rfl ?_
              refine tg_ref (S' := (78, [(4, .int u30), (0, .ref a), (1, .ref me), (2, .int i12_2), (3, .int i12_3)], [.ref vd], M32)) rfl hS37.1.1 h8 (by decide) rfl rfl ?_
              refine ml_blk 2 (S' := (81, [(4, .int u30), (0, .ref a), (1, .ref me), (2, .int i12_2), (3, .int i12_3)], [.int i12_2, .int 30, .ref vd], M32)) rfl ?_
              refine ml_call (a := [.ref vd, .int 30, .int i12_2]) (rest := []) rfl (okc_t rfl rfl rfl hS37.1.1 h12 (by decide)) rfl rfl (tw_Ve_wrong hS37.1.1 h12 (by omega)) (fun v131 M132 h133 => ?_)
              obtain ⟨rfl, h133⟩ := h133
              have g135 := h133.2.gf (nin_cons (ykne h8 h12 (by decide)) nin_nil) hs1
              have g136 := h133.2.gf (nin_cons (ykne h13 h12 (by decide)) nin_nil) g36
              have hS137 := hS37.tr h133 (by simp)
              show ml _ _ _ (84, [(4, .int u30), (0, .ref a), (1, .ref me), (2, .int i12_2), (3, .int i12_3)], [.int 0], M132) _
              exact ml_ret rfl (r_z (Or.inl rfl)) (⟨Y_12, ⟨_, rfl, Or.inl rfl⟩, (hT0_12.sf hS137).le (by have hc : nc_12 ≤ 2 ∧ ns_12 ≤ 23 := hi_12.2.2.2.elim (fun q => ⟨by omega, by omega⟩) (fun q => ⟨q.1, q.2.1⟩); omega) (by have hc : nc_12 ≤ 2 ∧ ns_12 ≤ 23 := hi_12.2.2.2.elim (fun q => ⟨by omega, by omega⟩) (fun q => ⟨q.1, q.2.1⟩); omega)⟩)
        · have c_41 : ¬ (¬ u34 = 0) := of_decide_eq_false c_41
          refine ml_st (S' := (45, [(4, .int u30), (0, .ref a), (1, .ref me), (2, .int i12_2), (3, .int i12_3)], [.int 0], M32)) rfl rfl rfl ?_
          exact ml_ret rfl (r_z (Or.inl rfl)) (⟨Y_12, ⟨_, rfl, Or.inl rfl⟩, (hT0_12.sf hS37).le (by have hc : nc_12 ≤ 2 ∧ ns_12 ≤ 23 := hi_12.2.2.2.elim (fun q => ⟨by omega, by omega⟩) (fun q => ⟨q.1, q.2.1⟩); omega) (by have hc : nc_12 ≤ 2 ∧ ns_12 ≤ 23 := hi_12.2.2.2.elim (fun q => ⟨by omega, by omega⟩) (fun q => ⟨q.1, q.2.1⟩); omega)⟩)
  exact L_12 _ ma 0 0 _ _ 0 0 (Nat.le_refl _) (sv.rf hS4.1.1) (⟨f3.2.2.1, g5, by show AW _ _ (cn.toInt - 0).toNat _; rw [Int.sub_zero]; exact haw, Or.inl ⟨rfl, rfl⟩⟩)
set_option maxHeartbeats 2000000 in
theorem tx_methodsHold {g : xe_G} {M : mi_H} {Y : yT} {a c b p vd ac da n : Nat} {pp : List Nat}  (hW : WF g Y M) (hY0 : Y.1 a = some (2, [c, b, p, vd, ac])) (hY1 : Y.1 c = some (3, [b, da, n])) (hY2 : Y.1 b = some (1, [da, n])) (hY3 : Y.1 p = some (7, pp)) (hY4 : Y.1 vd = some (10, [])) (hY5 : Y.1 ac = some (0, [c, b, p, vd])) {d : Nat} (hd : 6 ≤ d) : mt (mT g) d 67 [.ref a] M (fun v M' => ∃ Y', (∃ x : Int32, v = some (.int x) ∧ (x = 0 ∨ x = 1)) ∧ sa g Y M Y' M' n (3 * n)) := by
  obtain ⟨d, rfl⟩ : ∃ e, d = e + 1 := ⟨d - 1, by omega⟩
  have hS : st g Y M M := st.rf hW
  refine mt_in (b := mb_67 g) rfl rfl ?_
  show ml (mT g) d (mb_67 g).2 (0, [(0, .ref a)], [], M) _
  have hA := sa.rf hW
  obtain ⟨vq, hmm, mm, rfl, km, hym⟩ := hW.get (j := 7) hY1 (by decide) rfl
  have hml := hW.mlen hym
  refine ml_st (S' := (1, [(0, .ref a)], [.int 0], M)) rfl rfl rfl ?_
  refine ml_st (S' := (2, [(0, .ref a), (1, .int 0)], [], M)) rfl rfl rfl ?_
  have L_2 : ∀ (n_2 : Nat) (i2_1 : Int32) (Y_2 : yT) (M_2 : mi_H) (nc_2 ns_2 : Nat), (2147483648 - i2_1.toInt).toNat ≤ n_2 → sa g Y M Y_2 M_2 nc_2 ns_2 → (0 ≤ i2_1.toInt ∧ mi_gf M_2 c 3 7 = some (.ref mm) ∧ (nc_2 : Int) ≤ 2 * i2_1.toInt ∧ (ns_2 : Int) ≤ 23 * i2_1.toInt ∧ i2_1.toInt ≤ km) → ml (mT g) d (mb_67 g).2 (2, [(0, .ref a), (1, .int i2_1)], [], M_2) (fun v M' => ∃ Y', (∃ x : Int32, v = some (.int x) ∧ (x = 0 ∨ x = 1)) ∧ sa g Y M Y' M' n (3 * n)) := by
    intro n_2
    induction n_2 with
    | zero => intro i2_1 Y_2 M_2 nc_2 ns_2 hn; exact (loop_zero hn).elim
    | succ n_2 ih_2 =>
      intro i2_1 Y_2 M_2 nc_2 ns_2 hn_2 hL_2 hi_2
      have hT0_2 := (hA.st hS).tr hL_2
      have hS1 := st.rf hT0_2.1
      have h2 := (hL_2.2.1 _ _ hY0).1
      have h3 := (hL_2.2.1 _ _ hY1).1
      have h4 := (hL_2.2.1 _ _ hY2).1
      have h5 := (hL_2.2.1 _ _ hY3).1
      have h6 := (hL_2.2.1 _ _ hY4).1
      have h7 := (hL_2.2.1 _ _ hY5).1
      have h8 := (hL_2.2.1 _ _ hym).1
      refine ml_blk 2 (S' := (4, [(0, .ref a), (1, .int i2_1)], [.ref a, .int i2_1], M_2)) rfl ?_
      refine tg_ref (S' := (7, [(0, .ref a), (1, .int i2_1)], [.ref c, .int i2_1], M_2)) rfl hS1.1 h2 (by decide) rfl rfl ?_
      refine ml_get (S' := (10, [(0, .ref a), (1, .int i2_1)], [.ref mm, .int i2_1], M_2)) rfl hi_2.2.1 rfl ?_
      refine tl_mem (S' := (11, [(0, .ref a), (1, .int i2_1)], [.int (nI km), .int i2_1], M_2)) rfl hS1.1 h8 rfl ?_
      refine ml_if2 (S1 := (67, [(0, .ref a), (1, .int i2_1)], [], M_2)) (S2 := (14, [(0, .ref a), (1, .int i2_1)], [], M_2)) rfl rfl rfl (fun c_11 => ?_) (fun c_11 => ?_)
      · have c_11 : (nI km) ≤ i2_1 := of_decide_eq_true c_11
        refine ml_st (S' := (68, [(0, .ref a), (1, .int i2_1)], [.int 1], M_2)) rfl rfl rfl ?_
        exact ml_ret rfl (r_z (Or.inr rfl)) (⟨Y_2, ⟨_, rfl, Or.inr rfl⟩, (hT0_2.st hS1).le (by have h1 := hi_2.2.2.1; have h2 := hi_2.2.2.2.1; have h3 := hi_2.2.2.2.2; have h4 := hml.2; omega) (by have h1 := hi_2.2.2.1; have h2 := hi_2.2.2.2.1; have h3 := hi_2.2.2.2.2; have h4 := hml.2; omega)⟩)
      · have c_11 : ¬ ((nI km) ≤ i2_1) := of_decide_eq_false c_11
        refine ml_st (S' := (15, [(0, .ref a), (1, .int i2_1)], [.ref a], M_2)) rfl rfl rfl ?_
        refine tg_ref (S' := (18, [(0, .ref a), (1, .int i2_1)], [.ref c], M_2)) rfl hS1.1 h2 (by decide) rfl rfl ?_
        refine ml_get (S' := (21, [(0, .ref a), (1, .int i2_1)], [.ref mm], M_2)) rfl hi_2.2.1 rfl ?_
        refine ml_st (S' := (22, [(0, .ref a), (1, .int i2_1)], [.int i2_1, .ref mm], M_2)) rfl rfl rfl ?_
        refine ta_mem rfl hS1.1 h8 (vin_nI hi_2.1 c_11) ?_ (fun b9 h10 => ?_)
        · show ml _ _ _ (23, [(0, .ref a), (1, .int i2_1)], [.null], M_2) _
          refine ml_st (S' := (24, [(2, .null), (0, .ref a), (1, .int i2_1)], [], M_2)) rfl rfl rfl ?_
          refine ml_blk 2 (S' := (28, [(2, .null), (0, .ref a), (1, .int i2_1)], [], M_2)) rfl ?_
          refine ml_st (S' := (61, [(0, .ref a), (1, .int i2_1)], [], M_2)) rfl rfl rfl ?_
          refine ml_st (S' := (64, [(1, .int (i2_1 + 1)), (0, .ref a)], [], M_2)) rfl rfl rfl ?_
          refine ml_st (S' := (2, [(0, .ref a), (1, .int (i2_1 + 1))], [], M_2)) rfl rfl rfl ?_
          exact ih_2 (i2_1 + 1) _ _ _ _ (loop_inc (Int32.not_le.mp c_11) hn_2) (hL_2.st hS1) (⟨by rw [inc_lt (Int32.not_le.mp c_11)]; have := hi_2.1; omega, hi_2.2.1, by rw [inc_lt (Int32.not_le.mp c_11)]; have := hi_2.2.2.1; omega, by rw [inc_lt (Int32.not_le.mp c_11)]; have := hi_2.2.2.2.1; omega, by rw [inc_lt (Int32.not_le.mp c_11)]; have := i_nle c_11; rw [nI_val hml.1] at this; omega⟩)
        · skip
          show ml _ _ _ (23, [(0, .ref a), (1, .int i2_1)], [.ref b9], M_2) _
          refine ml_st (S' := (24, [(2, .ref b9), (0, .ref a), (1, .int i2_1)], [], M_2)) rfl rfl rfl ?_
          refine ml_blk 2 (S' := (31, [(2, .ref b9), (0, .ref a), (1, .int i2_1)], [], M_2)) rfl ?_
          refine ml_blk 3 (S' := (34, [(2, .ref b9), (0, .ref a), (1, .int i2_1)], [.int i2_1, .ref b9, .ref a], M_2)) rfl ?_
          refine ml_call (a := [.ref a, .ref b9, .int i2_1]) (rest := []) rfl (okc_t rfl rfl rfl hS1.1 h2 (by decide)) rfl rfl (tw_Cl_methodHolds hS1.1 h2 h3 h4 h5 h6 h7 h10 (by omega)) (fun v11 M12 h13 => ?_)
          obtain ⟨⟨u14, rfl, z15⟩, h13⟩ := h13
          have g16 := h13.2.gf (nin_cons (ykne h3 h10 (by decide)) (nin_cons (ykne h3 h6 (by decide)) nin_nil)) hi_2.2.1
          have hS17 := hS1.tr h13.1
          show ml _ _ _ (37, [(2, .ref b9), (0, .ref a), (1, .int i2_1)], [.int u14], M12) _
          refine ml_if (S1 := (59, [], [], M12)) (S2 := (40, [(2, .ref b9), (0, .ref a), (1, .int i2_1)], [], M12)) rfl rfl rfl (fun c_37 => ?_) (fun c_37 => ?_)
          · have c_37 : u14 = 0 := of_decide_eq_true c_37
            refine ml_st (S' := (60, [], [.int 0], M12)) rfl rfl rfl ?_
            exact ml_ret rfl (r_z (Or.inl rfl)) (⟨Y_2, ⟨_, rfl, Or.inl rfl⟩, (hT0_2.st hS17).le (by have h1 := hi_2.2.2.1; have h2 := hi_2.2.2.2.1; have h3 := hi_2.2.2.2.2; have h4 := hml.2; have h5 := i_nle c_11; rw [nI_val hml.1] at h5; omega) (by have h1 := hi_2.2.2.1; have h2 := hi_2.2.2.2.1; have h3 := hi_2.2.2.2.2; have h4 := hml.2; have h5 := i_nle c_11; rw [nI_val hml.1] at h5; omega)⟩)
          · have c_37 : ¬ (u14 = 0) := of_decide_eq_false c_37
            refine ml_st (S' := (41, [(2, .ref b9), (0, .ref a), (1, .int i2_1)], [.ref a], M12)) rfl rfl rfl ?_
            refine tg_ref (S' := (44, [(2, .ref b9), (0, .ref a), (1, .int i2_1)], [.ref ac], M12)) rfl hS17.1 h2 (by decide) rfl rfl ?_
            refine ml_st (S' := (45, [(2, .ref b9), (0, .ref a), (1, .int i2_1)], [.ref b9, .ref ac], M12)) rfl rfl rfl ?_
            refine ml_call (a := [.ref ac, .ref b9]) (rest := []) rfl (okc_t rfl rfl rfl hS17.1 h7 (by decide)) rfl rfl (tx_ofMethod hS17.1 h7 h3 h4 h5 h6 h10 (by omega)) (fun v18 M19 h20 => ?_)
            obtain ⟨Y22, ⟨u21, rfl, z24⟩, hv23⟩ := h20
            have g25 := gf_fr (hv23.2 c (nin_cons (ykne h3 h7 (by decide)) (nin_cons (ykne h3 h6 (by decide)) (nin_cons (ykne h3 h10 (by decide)) nin_nil))) (hS17.1.2.1 _ _ h3)) g16
            have hA26 := (hT0_2.st hS17).tr hv23.1
            have hA27 := (hL_2.st hS17).tr hv23.1
            have hS28 := st.rf hA26.1
            have h29 := (hv23.1.2.1 _ _ h2).1
            have h30 := (hv23.1.2.1 _ _ h3).1
            have h31 := (hv23.1.2.1 _ _ h4).1
            have h32 := (hv23.1.2.1 _ _ h5).1
            have h33 := (hv23.1.2.1 _ _ h6).1
            have h34 := (hv23.1.2.1 _ _ h7).1
            have h35 := (hv23.1.2.1 _ _ h8).1
            have h36 := (hv23.1.2.1 _ _ h10).1
            show ml _ _ _ (48, [(2, .ref b9), (0, .ref a), (1, .int i2_1)], [.int u21], M19) _
            refine ml_if (S1 := (59, [], [], M19)) (S2 := (51, [(2, .ref b9), (0, .ref a), (1, .int i2_1)], [], M19)) rfl rfl rfl (fun c_48 => ?_) (fun c_48 => ?_)
            · have c_48 : u21 = 0 := of_decide_eq_true c_48
              refine ml_st (S' := (60, [], [.int 0], M19)) rfl rfl rfl ?_
              exact ml_ret rfl (r_z (Or.inl rfl)) (⟨Y22, ⟨_, rfl, Or.inl rfl⟩, (hA26.st hS28).le (by have h1 := hi_2.2.2.1; have h2 := hi_2.2.2.2.1; have h3 := hi_2.2.2.2.2; have h4 := hml.2; have h5 := i_nle c_11; rw [nI_val hml.1] at h5; omega) (by have h1 := hi_2.2.2.1; have h2 := hi_2.2.2.2.1; have h3 := hi_2.2.2.2.2; have h4 := hml.2; have h5 := i_nle c_11; rw [nI_val hml.1] at h5; omega)⟩)
            · have c_48 : ¬ (u21 = 0) := of_decide_eq_false c_48
              refine ml_blk 2 (S' := (53, [(2, .ref b9), (0, .ref a), (1, .int i2_1)], [.ref b9, .ref a], M19)) rfl ?_
              refine ml_call (a := [.ref a, .ref b9]) (rest := []) rfl (okc_t rfl rfl rfl hS28.1 h29 (by decide)) rfl rfl (tw_Cl_codeIsDue hS28.1 h29 h30 h31 h32 h33 h34 h36 (by omega)) (fun v37 M38 h39 => ?_)
              obtain ⟨⟨u40, rfl, z41⟩, h39⟩ := h39
              have g42 := h39.2.gf (nin_cons (ykne h30 h33 (by decide)) nin_nil) g25
              have hS43 := hS28.tr h39.1
              show ml _ _ _ (56, [(2, .ref b9), (0, .ref a), (1, .int i2_1)], [.int u40], M38) _
              refine ml_if (S1 := (61, [(0, .ref a), (1, .int i2_1)], [], M38)) (S2 := (59, [], [], M38)) rfl rfl rfl (fun c_56 => ?_) (fun c_56 => ?_)
              · have c_56 : ¬ u40 = 0 := of_decide_eq_true c_56
                refine ml_st (S' := (64, [(1, .int (i2_1 + 1)), (0, .ref a)], [], M38)) rfl rfl rfl ?_
                refine ml_st (S' := (2, [(0, .ref a), (1, .int (i2_1 + 1))], [], M38)) rfl rfl rfl ?_
                exact ih_2 (i2_1 + 1) _ _ _ _ (loop_inc (Int32.not_le.mp c_11) hn_2) (hA27.st hS43) (⟨by rw [inc_lt (Int32.not_le.mp c_11)]; have := hi_2.1; omega, g42, by rw [inc_lt (Int32.not_le.mp c_11)]; have := hi_2.2.2.1; omega, by rw [inc_lt (Int32.not_le.mp c_11)]; have := hi_2.2.2.2.1; omega, by rw [inc_lt (Int32.not_le.mp c_11)]; have := i_nle c_11; rw [nI_val hml.1] at this; omega⟩)
              · have c_56 : ¬ (¬ u40 = 0) := of_decide_eq_false c_56
                refine ml_st (S' := (60, [], [.int 0], M38)) rfl rfl rfl ?_
                exact ml_ret rfl (r_z (Or.inl rfl)) (⟨Y22, ⟨_, rfl, Or.inl rfl⟩, (hA26.st hS43).le (by have h1 := hi_2.2.2.1; have h2 := hi_2.2.2.2.1; have h3 := hi_2.2.2.2.2; have h4 := hml.2; have h5 := i_nle c_11; rw [nI_val hml.1] at h5; omega) (by have h1 := hi_2.2.2.1; have h2 := hi_2.2.2.2.1; have h3 := hi_2.2.2.2.2; have h4 := hml.2; have h5 := i_nle c_11; rw [nI_val hml.1] at h5; omega)⟩)
  exact L_2 _ 0 _ _ 0 0 (Nat.le_refl _) (sa.rf hS.1) (⟨by decide, hmm, by decide, by decide, by show (0 : Int) ≤ _; omega⟩)
end
