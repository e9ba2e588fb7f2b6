/-! weak contracts: attributes (laid by wip/p2/c43.py) -/
set_option maxHeartbeats 2000000 in
theorem tw_At_behind {g : xe_G} {M : mi_H} {Y : yT} {a c b p vd da n : Nat} {pp : List Nat} {x1 : Int32}  (hW : WF g Y M) (hY0 : Y.1 a = some (0, [c, b, p, vd])) (hY1 : Y.1 c = some (3, [b, da, n])) (hY2 : Y.1 b = some (1, [da, n])) (hY3 : Y.1 p = some (7, pp)) (hY4 : Y.1 vd = some (10, [])) {d : Nat} (hd : 2 ≤ d) : mt (mT g) d 23 [.ref a, .int x1] M (pI M) := by
  obtain ⟨d, rfl⟩ : ∃ e, d = e + 1 := ⟨d - 1, by omega⟩
  have hS : st g Y M M := st.rf hW
  refine mt_in (b := mb_23 g) rfl rfl ?_
  show ml (mT g) d (mb_23 g).2 (0, [(0, .ref a), (1, .int x1)], [], M) _
  refine ml_blk 3 (S' := (4, [(0, .ref a), (1, .int x1)], [.int (x1 + 6)], M)) rfl ?_
  refine ml_st (S' := (5, [(0, .ref a), (1, .int x1)], [.ref a, .int (x1 + 6)], M)) rfl rfl rfl ?_
  refine tg_ref (S' := (8, [(0, .ref a), (1, .int x1)], [.ref b, .int (x1 + 6)], M)) rfl hS.1 hY0 (by decide) rfl rfl ?_
  refine ml_blk 3 (S' := (11, [(0, .ref a), (1, .int x1)], [.int (x1 + 2), .ref b, .int (x1 + 6)], M)) rfl ?_
  refine ml_call (a := [.ref b, .int (x1 + 2)]) (rest := [.int (x1 + 6)]) rfl (okc_t rfl rfl rfl hS.1 hY2 (by decide)) rfl rfl (tq_u4 hS.1 hY2 (by omega)) (fun v1 M2 h3 => ?_)
  obtain ⟨⟨u4, rfl⟩, h3⟩ := h3
  rw [h3]
  show ml _ _ _ (14, [(0, .ref a), (1, .int x1)], [.int u4, .int (x1 + 6)], M) _
  refine ml_st (S' := (15, [(0, .ref a), (1, .int x1)], [.int ((x1 + 6) + u4)], M)) rfl rfl rfl ?_
  exact ml_ret rfl (rfl) (⟨⟨_, rfl⟩, rfl⟩)
set_option maxHeartbeats 2000000 in
theorem tw_At_methodKind {g : xe_G} {M : mi_H} {Y : yT} {a c b p vd da n : Nat} {pp : List Nat} {x1 : Int32}  (hW : WF g Y M) (hY0 : Y.1 a = some (0, [c, b, p, vd])) (hY1 : Y.1 c = some (3, [b, da, n])) (hY2 : Y.1 b = some (1, [da, n])) (hY3 : Y.1 p = some (7, pp)) (hY4 : Y.1 vd = some (10, [])) {d : Nat} (hd : 3 ≤ d) : mt (mT g) d 37 [.ref a, .int x1] M (pI M) := by
  obtain ⟨d, rfl⟩ : ∃ e, d = e + 1 := ⟨d - 1, by omega⟩
  have hS : st g Y M M := st.rf hW
  refine mt_in (b := mb_37 g) rfl rfl ?_
  show ml (mT g) d (mb_37 g).2 (0, [(0, .ref a), (1, .int x1)], [], M) _
  refine ml_st (S' := (1, [(0, .ref a), (1, .int x1)], [.ref a], M)) rfl rfl rfl ?_
  refine tg_ref (S' := (4, [(0, .ref a), (1, .int x1)], [.ref p], M)) rfl hS.1 hY0 (by decide) rfl rfl ?_
  refine ml_blk 2 (S' := (7, [(0, .ref a), (1, .int x1)], [.ref (g.2.1 1), .int x1, .ref p], M)) rfl ?_
  refine ml_call (a := [.ref p, .int x1, .ref (g.2.1 1)]) (rest := []) rfl (okc_t rfl rfl rfl hS.1 hY3 (by decide)) rfl rfl (tq_textIs (lk := 1) hS.1 hY3 (by decide) (by omega)) (fun v1 M2 h3 => ?_)
  obtain ⟨⟨x4, rfl, z5⟩, h3⟩ := h3
  rw [h3]
  show ml _ _ _ (10, [(0, .ref a), (1, .int x1)], [.int x4], M) _
  refine ml_if (S1 := (15, [(0, .ref a), (1, .int x1)], [], M)) (S2 := (13, [(0, .ref a), (1, .int x1)], [], M)) rfl rfl rfl (fun c_10 => ?_) (fun c_10 => ?_)
  · have c_10 : x4 = 0 := of_decide_eq_true c_10
    refine ml_st (S' := (16, [(0, .ref a), (1, .int x1)], [.ref a], M)) rfl rfl rfl ?_
    refine tg_ref (S' := (19, [(0, .ref a), (1, .int x1)], [.ref p], M)) rfl hS.1 hY0 (by decide) rfl rfl ?_
    refine ml_blk 2 (S' := (22, [(0, .ref a), (1, .int x1)], [.ref (g.2.1 2), .int x1, .ref p], M)) rfl ?_
    refine ml_call (a := [.ref p, .int x1, .ref (g.2.1 2)]) (rest := []) rfl (okc_t rfl rfl rfl hS.1 hY3 (by decide)) rfl rfl (tq_textIs (lk := 2) hS.1 hY3 (by decide) (by omega)) (fun v6 M7 h8 => ?_)
    obtain ⟨⟨x9, rfl, z10⟩, h8⟩ := h8
    rw [h8]
    show ml _ _ _ (25, [(0, .ref a), (1, .int x1)], [.int x9], M) _
    refine ml_if (S1 := (32, [(0, .ref a), (1, .int x1)], [], M)) (S2 := (28, [(0, .ref a), (1, .int x1)], [], M)) rfl rfl rfl (fun c_25 => ?_) (fun c_25 => ?_)
    · have c_25 : x9 = 0 := of_decide_eq_true c_25
      refine ml_st (S' := (33, [], [.int 0], M)) rfl rfl rfl ?_
      exact ml_ret rfl (rfl) (⟨⟨_, rfl⟩, rfl⟩)
    · have c_25 : ¬ (x9 = 0) := of_decide_eq_false c_25
      refine ml_st (S' := (29, [(0, .ref a), (1, .int x1)], [.int 3], M)) rfl rfl rfl ?_
      refine ml_st (S' := (33, [], [.int 3], M)) rfl rfl rfl ?_
      exact ml_ret rfl (rfl) (⟨⟨_, rfl⟩, rfl⟩)
  · have c_10 : ¬ (x4 = 0) := of_decide_eq_false c_10
    refine ml_st (S' := (14, [(0, .ref a), (1, .int x1)], [.int 2], M)) rfl rfl rfl ?_
    exact ml_ret rfl (rfl) (⟨⟨_, rfl⟩, rfl⟩)
set_option maxHeartbeats 2000000 in
theorem tw_At_classKind {g : xe_G} {M : mi_H} {Y : yT} {a c b p vd da n : Nat} {pp : List Nat} {x1 : Int32}  (hW : WF g Y M) (hY0 : Y.1 a = some (0, [c, b, p, vd])) (hY1 : Y.1 c = some (3, [b, da, n])) (hY2 : Y.1 b = some (1, [da, n])) (hY3 : Y.1 p = some (7, pp)) (hY4 : Y.1 vd = some (10, [])) {d : Nat} (hd : 3 ≤ d) : mt (mT g) d 27 [.ref a, .int x1] M (pI M) := by
  obtain ⟨d, rfl⟩ : ∃ e, d = e + 1 := ⟨d - 1, by omega⟩
  have hS : st g Y M M := st.rf hW
  refine mt_in (b := mb_27 g) rfl rfl ?_
  show ml (mT g) d (mb_27 g).2 (0, [(0, .ref a), (1, .int x1)], [], M) _
  refine ml_st (S' := (1, [(0, .ref a), (1, .int x1)], [.ref a], M)) rfl rfl rfl ?_
  refine tg_ref (S' := (4, [(0, .ref a), (1, .int x1)], [.ref p], M)) rfl hS.1 hY0 (by decide) rfl rfl ?_
  refine ml_blk 2 (S' := (7, [(0, .ref a), (1, .int x1)], [.ref (g.2.1 3), .int x1, .ref p], M)) rfl ?_
  refine ml_call (a := [.ref p, .int x1, .ref (g.2.1 3)]) (rest := []) rfl (okc_t rfl rfl rfl hS.1 hY3 (by decide)) rfl rfl (tq_textIs (lk := 3) hS.1 hY3 (by decide) (by omega)) (fun v1 M2 h3 => ?_)
  obtain ⟨⟨x4, rfl, z5⟩, h3⟩ := h3
  rw [h3]
  show ml _ _ _ (10, [(0, .ref a), (1, .int x1)], [.int x4], M) _
  refine ml_if (S1 := (15, [(0, .ref a), (1, .int x1)], [], M)) (S2 := (13, [(0, .ref a), (1, .int x1)], [], M)) rfl rfl rfl (fun c_10 => ?_) (fun c_10 => ?_)
  · have c_10 : x4 = 0 := of_decide_eq_true c_10
    refine ml_st (S' := (16, [(0, .ref a), (1, .int x1)], [.ref a], M)) rfl rfl rfl ?_
    refine tg_ref (S' := (19, [(0, .ref a), (1, .int x1)], [.ref c], M)) rfl hS.1 hY0 (by decide) rfl rfl ?_
    refine tg_int rfl hS.1 hY1 (by decide) rfl (fun u6 g7 => ?_)
    show ml _ _ _ (22, [(0, .ref a), (1, .int x1)], [.int u6], M) _
    refine ml_st (S' := (24, [(0, .ref a), (1, .int x1)], [.int 51, .int u6], M)) rfl rfl rfl ?_
    have J_43 : ml (mT g) d (mb_27 g).2 (43, [(0, .ref a), (1, .int x1)], [], M) (pI M) := by
      refine ml_st (S' := (44, [(0, .ref a), (1, .int x1)], [.ref a], M)) rfl rfl rfl ?_
      refine tg_ref (S' := (47, [(0, .ref a), (1, .int x1)], [.ref c], M)) rfl hS.1 hY0 (by decide) rfl rfl ?_
      refine ml_get (S' := (50, [(0, .ref a), (1, .int x1)], [.int u6], M)) rfl g7 rfl ?_
      refine ml_st (S' := (52, [(0, .ref a), (1, .int x1)], [.int 55, .int u6], M)) rfl rfl rfl ?_
      have J_71 : ml (mT g) d (mb_27 g).2 (71, [(0, .ref a), (1, .int x1)], [], M) (pI M) := by
        refine ml_st (S' := (72, [(0, .ref a), (1, .int x1)], [.ref a], M)) rfl rfl rfl ?_
        refine tg_ref (S' := (75, [(0, .ref a), (1, .int x1)], [.ref c], M)) rfl hS.1 hY0 (by decide) rfl rfl ?_
        refine ml_get (S' := (78, [(0, .ref a), (1, .int x1)], [.int u6], M)) rfl g7 rfl ?_
        refine ml_st (S' := (80, [(0, .ref a), (1, .int x1)], [.int 55, .int u6], M)) rfl rfl rfl ?_
        have J_99 : ml (mT g) d (mb_27 g).2 (99, [(0, .ref a), (1, .int x1)], [], M) (pI M) := by
          refine ml_st (S' := (100, [(0, .ref a), (1, .int x1)], [.ref a], M)) rfl rfl rfl ?_
          refine tg_ref (S' := (103, [(0, .ref a), (1, .int x1)], [.ref c], M)) rfl hS.1 hY0 (by decide) rfl rfl ?_
          refine ml_get (S' := (106, [(0, .ref a), (1, .int x1)], [.int u6], M)) rfl g7 rfl ?_
          refine ml_st (S' := (108, [(0, .ref a), (1, .int x1)], [.int 60, .int u6], M)) rfl rfl rfl ?_
          have J_127 : ml (mT g) d (mb_27 g).2 (127, [(0, .ref a), (1, .int x1)], [], M) (pI M) := by
            refine ml_st (S' := (128, [(0, .ref a), (1, .int x1)], [.ref a], M)) rfl rfl rfl ?_
            refine tg_ref (S' := (131, [(0, .ref a), (1, .int x1)], [.ref c], M)) rfl hS.1 hY0 (by decide) rfl rfl ?_
            refine ml_get (S' := (134, [(0, .ref a), (1, .int x1)], [.int u6], M)) rfl g7 rfl ?_
            refine ml_st (S' := (136, [(0, .ref a), (1, .int x1)], [.int 61, .int u6], M)) rfl rfl rfl ?_
            refine ml_if2 (S1 := (155, [], [], M)) (S2 := (139, [(0, .ref a), (1, .int x1)], [], M)) rfl rfl rfl (fun c_136 => ?_) (fun c_136 => ?_)
            · have c_136 : u6 < 61 := of_decide_eq_true c_136
              refine ml_st (S' := (156, [], [.int 0], M)) rfl rfl rfl ?_
              exact ml_ret rfl (rfl) (⟨⟨_, rfl⟩, rfl⟩)
            · have c_136 : ¬ (u6 < 61) := of_decide_eq_false c_136
              refine ml_st (S' := (140, [(0, .ref a), (1, .int x1)], [.ref a], M)) rfl rfl rfl ?_
              refine tg_ref (S' := (143, [(0, .ref a), (1, .int x1)], [.ref p], M)) rfl hS.1 hY0 (by decide) rfl rfl ?_
              refine ml_blk 2 (S' := (146, [(0, .ref a), (1, .int x1)], [.ref (g.2.1 8), .int x1, .ref p], M)) rfl ?_
              refine ml_call (a := [.ref p, .int x1, .ref (g.2.1 8)]) (rest := []) rfl (okc_t rfl rfl rfl hS.1 hY3 (by decide)) rfl rfl (tq_textIs (lk := 8) hS.1 hY3 (by decide) (by omega)) (fun v8 M9 h10 => ?_)
              obtain ⟨⟨x11, rfl, z12⟩, h10⟩ := h10
              rw [h10]
              show ml _ _ _ (149, [(0, .ref a), (1, .int x1)], [.int x11], M) _
              refine ml_if (S1 := (155, [], [], M)) (S2 := (152, [(0, .ref a), (1, .int x1)], [], M)) rfl rfl rfl (fun c_149 => ?_) (fun c_149 => ?_)
              · have c_149 : x11 = 0 := of_decide_eq_true c_149
                refine ml_st (S' := (156, [], [.int 0], M)) rfl rfl rfl ?_
                exact ml_ret rfl (rfl) (⟨⟨_, rfl⟩, rfl⟩)
              · have c_149 : ¬ (x11 = 0) := of_decide_eq_false c_149
                refine ml_st (S' := (154, [(0, .ref a), (1, .int x1)], [.int 10], M)) rfl rfl rfl ?_
                exact ml_ret rfl (rfl) (⟨⟨_, rfl⟩, rfl⟩)
          refine ml_if2 (S1 := (127, [(0, .ref a), (1, .int x1)], [], M)) (S2 := (111, [(0, .ref a), (1, .int x1)], [], M)) rfl rfl rfl (fun c_108 => ?_) (fun c_108 => ?_)
          · have c_108 : u6 < 60 := of_decide_eq_true c_108
            exact J_127 
          · have c_108 : ¬ (u6 < 60) := of_decide_eq_false c_108
            refine ml_st (S' := (112, [(0, .ref a), (1, .int x1)], [.ref a], M)) rfl rfl rfl ?_
            refine tg_ref (S' := (115, [(0, .ref a), (1, .int x1)], [.ref p], M)) rfl hS.1 hY0 (by decide) rfl rfl ?_
            refine ml_blk 2 (S' := (118, [(0, .ref a), (1, .int x1)], [.ref (g.2.1 7), .int x1, .ref p], M)) rfl ?_
            refine ml_call (a := [.ref p, .int x1, .ref (g.2.1 7)]) (rest := []) rfl (okc_t rfl rfl rfl hS.1 hY3 (by decide)) rfl rfl (tq_textIs (lk := 7) hS.1 hY3 (by decide) (by omega)) (fun v13 M14 h15 => ?_)
            obtain ⟨⟨x16, rfl, z17⟩, h15⟩ := h15
            rw [h15]
            show ml _ _ _ (121, [(0, .ref a), (1, .int x1)], [.int x16], M) _
            refine ml_if (S1 := (127, [(0, .ref a), (1, .int x1)], [], M)) (S2 := (124, [(0, .ref a), (1, .int x1)], [], M)) rfl rfl rfl (fun c_121 => ?_) (fun c_121 => ?_)
            · have c_121 : x16 = 0 := of_decide_eq_true c_121
              exact J_127 
            · have c_121 : ¬ (x16 = 0) := of_decide_eq_false c_121
              refine ml_st (S' := (126, [(0, .ref a), (1, .int x1)], [.int 9], M)) rfl rfl rfl ?_
              exact ml_ret rfl (rfl) (⟨⟨_, rfl⟩, rfl⟩)
        refine ml_if2 (S1 := (99, [(0, .ref a), (1, .int x1)], [], M)) (S2 := (83, [(0, .ref a), (1, .int x1)], [], M)) rfl rfl rfl (fun c_80 => ?_) (fun c_80 => ?_)
        · have c_80 : u6 < 55 := of_decide_eq_true c_80
          exact J_99 
        · have c_80 : ¬ (u6 < 55) := of_decide_eq_false c_80
          refine ml_st (S' := (84, [(0, .ref a), (1, .int x1)], [.ref a], M)) rfl rfl rfl ?_
          refine tg_ref (S' := (87, [(0, .ref a), (1, .int x1)], [.ref p], M)) rfl hS.1 hY0 (by decide) rfl rfl ?_
          refine ml_blk 2 (S' := (90, [(0, .ref a), (1, .int x1)], [.ref (g.2.1 6), .int x1, .ref p], M)) rfl ?_
          refine ml_call (a := [.ref p, .int x1, .ref (g.2.1 6)]) (rest := []) rfl (okc_t rfl rfl rfl hS.1 hY3 (by decide)) rfl rfl (tq_textIs (lk := 6) hS.1 hY3 (by decide) (by omega)) (fun v18 M19 h20 => ?_)
          obtain ⟨⟨x21, rfl, z22⟩, h20⟩ := h20
          rw [h20]
          show ml _ _ _ (93, [(0, .ref a), (1, .int x1)], [.int x21], M) _
          refine ml_if (S1 := (99, [(0, .ref a), (1, .int x1)], [], M)) (S2 := (96, [(0, .ref a), (1, .int x1)], [], M)) rfl rfl rfl (fun c_93 => ?_) (fun c_93 => ?_)
          · have c_93 : x21 = 0 := of_decide_eq_true c_93
            exact J_99 
          · have c_93 : ¬ (x21 = 0) := of_decide_eq_false c_93
            refine ml_st (S' := (98, [(0, .ref a), (1, .int x1)], [.int 8], M)) rfl rfl rfl ?_
            exact ml_ret rfl (rfl) (⟨⟨_, rfl⟩, rfl⟩)
      refine ml_if2 (S1 := (71, [(0, .ref a), (1, .int x1)], [], M)) (S2 := (55, [(0, .ref a), (1, .int x1)], [], M)) rfl rfl rfl (fun c_52 => ?_) (fun c_52 => ?_)
      · have c_52 : u6 < 55 := of_decide_eq_true c_52
        exact J_71 
      · have c_52 : ¬ (u6 < 55) := of_decide_eq_false c_52
        refine ml_st (S' := (56, [(0, .ref a), (1, .int x1)], [.ref a], M)) rfl rfl rfl ?_
        refine tg_ref (S' := (59, [(0, .ref a), (1, .int x1)], [.ref p], M)) rfl hS.1 hY0 (by decide) rfl rfl ?_
        refine ml_blk 2 (S' := (62, [(0, .ref a), (1, .int x1)], [.ref (g.2.1 5), .int x1, .ref p], M)) rfl ?_
        refine ml_call (a := [.ref p, .int x1, .ref (g.2.1 5)]) (rest := []) rfl (okc_t rfl rfl rfl hS.1 hY3 (by decide)) rfl rfl (tq_textIs (lk := 5) hS.1 hY3 (by decide) (by omega)) (fun v23 M24 h25 => ?_)
        obtain ⟨⟨x26, rfl, z27⟩, h25⟩ := h25
        rw [h25]
        show ml _ _ _ (65, [(0, .ref a), (1, .int x1)], [.int x26], M) _
        refine ml_if (S1 := (71, [(0, .ref a), (1, .int x1)], [], M)) (S2 := (68, [(0, .ref a), (1, .int x1)], [], M)) rfl rfl rfl (fun c_65 => ?_) (fun c_65 => ?_)
        · have c_65 : x26 = 0 := of_decide_eq_true c_65
          exact J_71 
        · have c_65 : ¬ (x26 = 0) := of_decide_eq_false c_65
          refine ml_st (S' := (70, [(0, .ref a), (1, .int x1)], [.int 7], M)) rfl rfl rfl ?_
          exact ml_ret rfl (rfl) (⟨⟨_, rfl⟩, rfl⟩)
    refine ml_if2 (S1 := (43, [(0, .ref a), (1, .int x1)], [], M)) (S2 := (27, [(0, .ref a), (1, .int x1)], [], M)) rfl rfl rfl (fun c_24 => ?_) (fun c_24 => ?_)
    · have c_24 : u6 < 51 := of_decide_eq_true c_24
      exact J_43 
    · have c_24 : ¬ (u6 < 51) := of_decide_eq_false c_24
      refine ml_st (S' := (28, [(0, .ref a), (1, .int x1)], [.ref a], M)) rfl rfl rfl ?_
      refine tg_ref (S' := (31, [(0, .ref a), (1, .int x1)], [.ref p], M)) rfl hS.1 hY0 (by decide) rfl rfl ?_
      refine ml_blk 2 (S' := (34, [(0, .ref a), (1, .int x1)], [.ref (g.2.1 4), .int x1, .ref p], M)) rfl ?_
      refine ml_call (a := [.ref p, .int x1, .ref (g.2.1 4)]) (rest := []) rfl (okc_t rfl rfl rfl hS.1 hY3 (by decide)) rfl rfl (tq_textIs (lk := 4) hS.1 hY3 (by decide) (by omega)) (fun v28 M29 h30 => ?_)
      obtain ⟨⟨x31, rfl, z32⟩, h30⟩ := h30
      rw [h30]
      show ml _ _ _ (37, [(0, .ref a), (1, .int x1)], [.int x31], M) _
      refine ml_if (S1 := (43, [(0, .ref a), (1, .int x1)], [], M)) (S2 := (40, [(0, .ref a), (1, .int x1)], [], M)) rfl rfl rfl (fun c_37 => ?_) (fun c_37 => ?_)
      · have c_37 : x31 = 0 := of_decide_eq_true c_37
        exact J_43 
      · have c_37 : ¬ (x31 = 0) := of_decide_eq_false c_37
        refine ml_st (S' := (42, [(0, .ref a), (1, .int x1)], [.int 6], M)) rfl rfl rfl ?_
        exact ml_ret rfl (rfl) (⟨⟨_, rfl⟩, rfl⟩)
  · have c_10 : ¬ (x4 = 0) := of_decide_eq_false c_10
    refine ml_st (S' := (14, [(0, .ref a), (1, .int x1)], [.int 5], M)) rfl rfl rfl ?_
    exact ml_ret rfl (rfl) (⟨⟨_, rfl⟩, rfl⟩)
set_option maxHeartbeats 2000000 in
theorem tw_At_hasSeen {g : xe_G} {M : mi_H} {Y : yT} {a c b p vd da n : Nat} {pp : List Nat} {x1 : Int32}  (hW : WF g Y M) (hY0 : Y.1 a = some (0, [c, b, p, vd])) (hY1 : Y.1 c = some (3, [b, da, n])) (hY2 : Y.1 b = some (1, [da, n])) (hY3 : Y.1 p = some (7, pp)) (hY4 : Y.1 vd = some (10, [])) {d : Nat} (hd : 1 ≤ d) : mt (mT g) d 33 [.ref a, .int x1] M (pZ M) := by
  obtain ⟨d, rfl⟩ : ∃ e, d = e + 1 := ⟨d - 1, by omega⟩
  have hS : st g Y M M := st.rf hW
  refine mt_in (b := mb_33 g) rfl rfl ?_
  show ml (mT g) d (mb_33 g).2 (0, [(0, .ref a), (1, .int x1)], [], M) _
  refine ml_st (S' := (1, [(0, .ref a), (1, .int x1)], [.ref a], M)) rfl rfl rfl ?_
  refine tg_int rfl hS.1 hY0 (by decide) rfl (fun u1 g2 => ?_)
  show ml _ _ _ (4, [(0, .ref a), (1, .int x1)], [.int u1], M) _
  refine ml_blk 3 (S' := (7, [(0, .ref a), (1, .int x1)], [.int 1, .int (u1 >>> (x1 &&& 31))], M)) rfl ?_
  refine ml_st (S' := (8, [(0, .ref a), (1, .int x1)], [.int ((u1 >>> (x1 &&& 31)) &&& 1)], M)) rfl rfl rfl ?_
  refine ml_if (S1 := (15, [(0, .ref a), (1, .int x1)], [], M)) (S2 := (11, [(0, .ref a), (1, .int x1)], [], M)) rfl rfl rfl (fun c_8 => ?_) (fun c_8 => ?_)
  · have c_8 : ((u1 >>> (x1 &&& 31)) &&& 1) = 0 := of_decide_eq_true c_8
    refine ml_st (S' := (16, [], [.int 0], M)) rfl rfl rfl ?_
    exact ml_ret rfl (r_z (Or.inl rfl)) (⟨⟨_, rfl, Or.inl rfl⟩, rfl⟩)
  · have c_8 : ¬ (((u1 >>> (x1 &&& 31)) &&& 1) = 0) := of_decide_eq_false c_8
    refine ml_st (S' := (12, [(0, .ref a), (1, .int x1)], [.int 1], M)) rfl rfl rfl ?_
    refine ml_st (S' := (16, [], [.int 1], M)) rfl rfl rfl ?_
    exact ml_ret rfl (r_z (Or.inr rfl)) (⟨⟨_, rfl, Or.inr rfl⟩, rfl⟩)
set_option maxHeartbeats 2000000 in
theorem tw_At_bootstrapsEnd {g : xe_G} {M : mi_H} {Y : yT} {a c b p vd da n : Nat} {pp : List Nat} {x1 x2 : Int32}  (hW : WF g Y M) (hY0 : Y.1 a = some (0, [c, b, p, vd])) (hY1 : Y.1 c = some (3, [b, da, n])) (hY2 : Y.1 b = some (1, [da, n])) (hY3 : Y.1 p = some (7, pp)) (hY4 : Y.1 vd = some (10, [])) {d : Nat} (hd : 2 ≤ d) : mt (mT g) d 24 [.ref a, .int x1, .int x2] M (pI M) := by
  obtain ⟨d, rfl⟩ : ∃ e, d = e + 1 := ⟨d - 1, by omega⟩
  have hS : st g Y M M := st.rf hW
  refine mt_in (b := mb_24 g) rfl rfl ?_
  show ml (mT g) d (mb_24 g).2 (0, [(0, .ref a), (1, .int x1), (2, .int x2)], [], M) _
  refine ml_st (S' := (1, [(0, .ref a), (1, .int x1), (2, .int x2)], [.ref a], M)) rfl rfl rfl ?_
  refine tg_ref (S' := (4, [(0, .ref a), (1, .int x1), (2, .int x2)], [.ref b], M)) rfl hS.1 hY0 (by decide) rfl rfl ?_
  refine ml_st (S' := (5, [(0, .ref a), (1, .int x1), (2, .int x2)], [.int x1, .ref b], M)) rfl rfl rfl ?_
  refine ml_call (a := [.ref b, .int x1]) (rest := []) rfl (okc_t rfl rfl rfl hS.1 hY2 (by decide)) rfl rfl (tq_u2 hS.1 hY2 (by omega)) (fun v1 M2 h3 => ?_)
  obtain ⟨⟨u4, rfl⟩, h3⟩ := h3
  rw [h3]
  show ml _ _ _ (8, [(0, .ref a), (1, .int x1), (2, .int x2)], [.int u4], M) _
  refine ml_st (S' := (9, [(3, .int u4), (0, .ref a), (1, .int x1), (2, .int x2)], [], M)) rfl rfl rfl ?_
  refine ml_blk 3 (S' := (12, [(3, .int u4), (0, .ref a), (1, .int x1), (2, .int x2)], [.int (x1 + 2)], M)) rfl ?_
  refine ml_st (S' := (14, [(4, .int (x1 + 2)), (3, .int u4), (0, .ref a), (1, .int x1), (2, .int x2)], [], M)) rfl rfl rfl ?_
  refine ml_st (S' := (15, [(4, .int (x1 + 2)), (3, .int u4), (0, .ref a), (1, .int x1), (2, .int x2)], [.int 0], M)) rfl rfl rfl ?_
  refine ml_st (S' := (17, [(0, .ref a), (2, .int x2), (3, .int u4), (4, .int (x1 + 2)), (5, .int 0)], [], M)) rfl rfl rfl ?_
  have L_17 : ∀ (n_17 : Nat) (i17_4 : Int32) (i17_5 : Int32), (2147483648 - i17_5.toInt).toNat ≤ n_17 → ml (mT g) d (mb_24 g).2 (17, [(0, .ref a), (2, .int x2), (3, .int u4), (4, .int i17_4), (5, .int i17_5)], [], M) (pI M) := by
    intro n_17
    induction n_17 with
    | zero => intro i17_4 i17_5 hn; exact (loop_zero hn).elim
    | succ n_17 ih_17 =>
      intro i17_4 i17_5 hn_17
      refine ml_blk 2 (S' := (20, [(0, .ref a), (2, .int x2), (3, .int u4), (4, .int i17_4), (5, .int i17_5)], [.int u4, .int i17_5], M)) rfl ?_
      refine ml_if2 (S1 := (59, [(0, .ref a), (2, .int x2), (3, .int u4), (4, .int i17_4), (5, .int i17_5)], [], M)) (S2 := (23, [(0, .ref a), (2, .int x2), (3, .int u4), (4, .int i17_4), (5, .int i17_5)], [], M)) rfl rfl rfl (fun c_20 => ?_) (fun c_20 => ?_)
      · have c_20 : u4 ≤ i17_5 := of_decide_eq_true c_20
        refine ml_st (S' := (61, [(0, .ref a), (2, .int x2), (3, .int u4), (4, .int i17_4), (5, .int i17_5)], [.int i17_4], M)) rfl rfl rfl ?_
        exact ml_ret rfl (rfl) (⟨⟨_, rfl⟩, rfl⟩)
      · have c_20 : ¬ (u4 ≤ i17_5) := of_decide_eq_false c_20
        refine ml_blk 3 (S' := (27, [(0, .ref a), (2, .int x2), (3, .int u4), (4, .int i17_4), (5, .int i17_5)], [.int (x2 - i17_4)], M)) rfl ?_
        refine ml_st (S' := (28, [(0, .ref a), (2, .int x2), (3, .int u4), (4, .int i17_4), (5, .int i17_5)], [.int 4, .int (x2 - i17_4)], M)) rfl rfl rfl ?_
        refine ml_if2 (S1 := (33, [(0, .ref a), (2, .int x2), (3, .int u4), (4, .int i17_4), (5, .int i17_5)], [], M)) (S2 := (31, [(0, .ref a), (2, .int x2), (3, .int u4), (4, .int i17_4), (5, .int i17_5)], [], M)) rfl rfl rfl (fun c_28 => ?_) (fun c_28 => ?_)
        · have c_28 : 4 ≤ (x2 - i17_4) := of_decide_eq_true c_28
          refine ml_blk 3 (S' := (37, [(0, .ref a), (2, .int x2), (3, .int u4), (4, .int i17_4), (5, .int i17_5)], [.int 2, .int 4, .int i17_4], M)) rfl ?_
          refine ml_st (S' := (38, [(0, .ref a), (2, .int x2), (3, .int u4), (4, .int i17_4), (5, .int i17_5)], [.ref a, .int 2, .int 4, .int i17_4], M)) rfl rfl rfl ?_
          refine tg_ref (S' := (41, [(0, .ref a), (2, .int x2), (3, .int u4), (4, .int i17_4), (5, .int i17_5)], [.ref b, .int 2, .int 4, .int i17_4], M)) rfl hS.1 hY0 (by decide) rfl rfl ?_
          refine ml_blk 3 (S' := (45, [(0, .ref a), (2, .int x2), (3, .int u4), (4, .int i17_4), (5, .int i17_5)], [.int (i17_4 + 2), .ref b, .int 2, .int 4, .int i17_4], M)) rfl ?_
          refine ml_call (a := [.ref b, .int (i17_4 + 2)]) (rest := [.int 2, .int 4, .int i17_4]) rfl (okc_t rfl rfl rfl hS.1 hY2 (by decide)) rfl rfl (tq_u2 hS.1 hY2 (by omega)) (fun v5 M6 h7 => ?_)
          obtain ⟨⟨u8, rfl⟩, h7⟩ := h7
          rw [h7]
          show ml _ _ _ (48, [(0, .ref a), (2, .int x2), (3, .int u4), (4, .int i17_4), (5, .int i17_5)], [.int u8, .int 2, .int 4, .int i17_4], M) _
          refine ml_blk 3 (S' := (51, [(0, .ref a), (2, .int x2), (3, .int u4), (4, .int i17_4), (5, .int i17_5)], [.int (i17_4 + (4 + (2 * u8)))], M)) rfl ?_
          refine ml_st (S' := (53, [(4, .int (i17_4 + (4 + (2 * u8)))), (0, .ref a), (2, .int x2), (3, .int u4), (5, .int i17_5)], [], M)) rfl rfl rfl ?_
          refine ml_st (S' := (56, [(5, .int (i17_5 + 1)), (4, .int (i17_4 + (4 + (2 * u8)))), (0, .ref a), (2, .int x2), (3, .int u4)], [], M)) rfl rfl rfl ?_
          refine ml_st (S' := (17, [(0, .ref a), (2, .int x2), (3, .int u4), (4, .int (i17_4 + (4 + (2 * u8)))), (5, .int (i17_5 + 1))], [], M)) rfl rfl rfl ?_
          exact ih_17 (i17_4 + (4 + (2 * u8))) (i17_5 + 1) (loop_inc (Int32.not_le.mp c_20) hn_17) 
        · have c_28 : ¬ (4 ≤ (x2 - i17_4)) := of_decide_eq_false c_28
          refine ml_st (S' := (32, [(0, .ref a), (2, .int x2), (3, .int u4), (4, .int i17_4), (5, .int i17_5)], [.int (-1)], M)) rfl rfl rfl ?_
          exact ml_ret rfl (rfl) (⟨⟨_, rfl⟩, rfl⟩)
  exact L_17 _ (x1 + 2) 0 (Nat.le_refl _) 
set_option maxHeartbeats 2000000 in
theorem tw_At_recordEnd {g : xe_G} {M : mi_H} {Y : yT} {a c b p vd da n : Nat} {pp : List Nat} {x1 x2 : Int32}  (hW : WF g Y M) (hY0 : Y.1 a = some (0, [c, b, p, vd])) (hY1 : Y.1 c = some (3, [b, da, n])) (hY2 : Y.1 b = some (1, [da, n])) (hY3 : Y.1 p = some (7, pp)) (hY4 : Y.1 vd = some (10, [])) {d : Nat} (hd : 3 ≤ d) : mt (mT g) d 41 [.ref a, .int x1, .int x2] M (pI M) := by
  obtain ⟨d, rfl⟩ : ∃ e, d = e + 1 := ⟨d - 1, by omega⟩
  have hS : st g Y M M := st.rf hW
  refine mt_in (b := mb_41 g) rfl rfl ?_
  show ml (mT g) d (mb_41 g).2 (0, [(0, .ref a), (1, .int x1), (2, .int x2)], [], M) _
  refine ml_st (S' := (1, [(0, .ref a), (1, .int x1), (2, .int x2)], [.ref a], M)) rfl rfl rfl ?_
  refine tg_ref (S' := (4, [(0, .ref a), (1, .int x1), (2, .int x2)], [.ref b], M)) rfl hS.1 hY0 (by decide) rfl rfl ?_
  refine ml_st (S' := (5, [(0, .ref a), (1, .int x1), (2, .int x2)], [.int x1, .ref b], M)) rfl rfl rfl ?_
  refine ml_call (a := [.ref b, .int x1]) (rest := []) rfl (okc_t rfl rfl rfl hS.1 hY2 (by decide)) rfl rfl (tq_u2 hS.1 hY2 (by omega)) (fun v1 M2 h3 => ?_)
  obtain ⟨⟨u4, rfl⟩, h3⟩ := h3
  rw [h3]
  show ml _ _ _ (8, [(0, .ref a), (1, .int x1), (2, .int x2)], [.int u4], M) _
  refine ml_st (S' := (9, [(3, .int u4), (0, .ref a), (1, .int x1), (2, .int x2)], [], M)) rfl rfl rfl ?_
  refine ml_blk 3 (S' := (12, [(3, .int u4), (0, .ref a), (1, .int x1), (2, .int x2)], [.int (x1 + 2)], M)) rfl ?_
  refine ml_st (S' := (14, [(4, .int (x1 + 2)), (3, .int u4), (0, .ref a), (1, .int x1), (2, .int x2)], [], M)) rfl rfl rfl ?_
  refine ml_st (S' := (15, [(4, .int (x1 + 2)), (3, .int u4), (0, .ref a), (1, .int x1), (2, .int x2)], [.int 0], M)) rfl rfl rfl ?_
  refine ml_st (S' := (17, [(0, .ref a), (2, .int x2), (3, .int u4), (4, .int (x1 + 2)), (5, .int 0)], [], M)) rfl rfl rfl ?_
  have L_17 : ∀ (n_17 : Nat) (i17_4 : Int32) (i17_5 : Int32), (2147483648 - i17_5.toInt).toNat ≤ n_17 → ml (mT g) d (mb_41 g).2 (17, [(0, .ref a), (2, .int x2), (3, .int u4), (4, .int i17_4), (5, .int i17_5)], [], M) (pI M) := by
    intro n_17
    induction n_17 with
    | zero => intro i17_4 i17_5 hn; exact (loop_zero hn).elim
    | succ n_17 ih_17 =>
      intro i17_4 i17_5 hn_17
      refine ml_blk 2 (S' := (20, [(0, .ref a), (2, .int x2), (3, .int u4), (4, .int i17_4), (5, .int i17_5)], [.int u4, .int i17_5], M)) rfl ?_
      refine ml_if2 (S1 := (73, [(0, .ref a), (2, .int x2), (3, .int u4), (4, .int i17_4), (5, .int i17_5)], [], M)) (S2 := (23, [(0, .ref a), (2, .int x2), (3, .int u4), (4, .int i17_4), (5, .int i17_5)], [], M)) rfl rfl rfl (fun c_20 => ?_) (fun c_20 => ?_)
      · have c_20 : u4 ≤ i17_5 := of_decide_eq_true c_20
        refine ml_st (S' := (75, [(0, .ref a), (2, .int x2), (3, .int u4), (4, .int i17_4), (5, .int i17_5)], [.int i17_4], M)) rfl rfl rfl ?_
        exact ml_ret rfl (rfl) (⟨⟨_, rfl⟩, rfl⟩)
      · have c_20 : ¬ (u4 ≤ i17_5) := of_decide_eq_false c_20
        refine ml_blk 3 (S' := (27, [(0, .ref a), (2, .int x2), (3, .int u4), (4, .int i17_4), (5, .int i17_5)], [.int (x2 - i17_4)], M)) rfl ?_
        refine ml_st (S' := (29, [(0, .ref a), (2, .int x2), (3, .int u4), (4, .int i17_4), (5, .int i17_5)], [.int 6, .int (x2 - i17_4)], M)) rfl rfl rfl ?_
        refine ml_if2 (S1 := (34, [(0, .ref a), (2, .int x2), (3, .int u4), (4, .int i17_4), (5, .int i17_5)], [], M)) (S2 := (32, [(0, .ref a), (2, .int x2), (3, .int u4), (4, .int i17_4), (5, .int i17_5)], [], M)) rfl rfl rfl (fun c_29 => ?_) (fun c_29 => ?_)
        · have c_29 : 6 ≤ (x2 - i17_4) := of_decide_eq_true c_29
          refine ml_st (S' := (35, [(0, .ref a), (2, .int x2), (3, .int u4), (4, .int i17_4), (5, .int i17_5)], [.ref a], M)) rfl rfl rfl ?_
          refine tg_ref (S' := (38, [(0, .ref a), (2, .int x2), (3, .int u4), (4, .int i17_4), (5, .int i17_5)], [.ref b], M)) rfl hS.1 hY0 (by decide) rfl rfl ?_
          refine ml_blk 3 (S' := (43, [(0, .ref a), (2, .int x2), (3, .int u4), (4, .int i17_4), (5, .int i17_5)], [.int (i17_4 + 6), .ref b], M)) rfl ?_
          refine ml_st (S' := (44, [(0, .ref a), (2, .int x2), (3, .int u4), (4, .int i17_4), (5, .int i17_5)], [.ref a, .int (i17_4 + 6), .ref b], M)) rfl rfl rfl ?_
          refine tg_ref (S' := (47, [(0, .ref a), (2, .int x2), (3, .int u4), (4, .int i17_4), (5, .int i17_5)], [.ref b, .int (i17_4 + 6), .ref b], M)) rfl hS.1 hY0 (by decide) rfl rfl ?_
          refine ml_blk 3 (S' := (51, [(0, .ref a), (2, .int x2), (3, .int u4), (4, .int i17_4), (5, .int i17_5)], [.int (i17_4 + 4), .ref b, .int (i17_4 + 6), .ref b], M)) rfl ?_
          refine ml_call (a := [.ref b, .int (i17_4 + 4)]) (rest := [.int (i17_4 + 6), .ref b]) rfl (okc_t rfl rfl rfl hS.1 hY2 (by decide)) rfl rfl (tq_u2 hS.1 hY2 (by omega)) (fun v5 M6 h7 => ?_)
          obtain ⟨⟨u8, rfl⟩, h7⟩ := h7
          rw [h7]
          show ml _ _ _ (54, [(0, .ref a), (2, .int x2), (3, .int u4), (4, .int i17_4), (5, .int i17_5)], [.int u8, .int (i17_4 + 6), .ref b], M) _
          refine ml_st (S' := (55, [(0, .ref a), (2, .int x2), (3, .int u4), (4, .int i17_4), (5, .int i17_5)], [.int x2, .int u8, .int (i17_4 + 6), .ref b], M)) rfl rfl rfl ?_
          refine ml_call (a := [.ref b, .int (i17_4 + 6), .int u8, .int x2]) (rest := []) rfl (okc_t rfl rfl rfl hS.1 hY2 (by decide)) rfl rfl (tq_attributesEnd hS.1 hY2 (by omega)) (fun v9 M10 h11 => ?_)
          obtain ⟨⟨u12, rfl⟩, h11⟩ := h11
          rw [h11]
          show ml _ _ _ (58, [(0, .ref a), (2, .int x2), (3, .int u4), (4, .int i17_4), (5, .int i17_5)], [.int u12], M) _
          refine ml_st (S' := (60, [(4, .int u12), (0, .ref a), (2, .int x2), (3, .int u4), (5, .int i17_5)], [], M)) rfl rfl rfl ?_
          refine ml_st (S' := (62, [(4, .int u12), (0, .ref a), (2, .int x2), (3, .int u4), (5, .int i17_5)], [.int u12], M)) rfl rfl rfl ?_
          refine ml_if (S1 := (67, [(4, .int u12), (0, .ref a), (2, .int x2), (3, .int u4), (5, .int i17_5)], [], M)) (S2 := (65, [(4, .int u12), (0, .ref a), (2, .int x2), (3, .int u4), (5, .int i17_5)], [], M)) rfl rfl rfl (fun c_62 => ?_) (fun c_62 => ?_)
          · have c_62 : 0 ≤ u12 := of_decide_eq_true c_62
            refine ml_st (S' := (70, [(5, .int (i17_5 + 1)), (4, .int u12), (0, .ref a), (2, .int x2), (3, .int u4)], [], M)) rfl rfl rfl ?_
            refine ml_st (S' := (17, [(0, .ref a), (2, .int x2), (3, .int u4), (4, .int u12), (5, .int (i17_5 + 1))], [], M)) rfl rfl rfl ?_
            exact ih_17 u12 (i17_5 + 1) (loop_inc (Int32.not_le.mp c_20) hn_17) 
          · have c_62 : ¬ (0 ≤ u12) := of_decide_eq_false c_62
            refine ml_st (S' := (66, [(4, .int u12), (0, .ref a), (2, .int x2), (3, .int u4), (5, .int i17_5)], [.int (-1)], M)) rfl rfl rfl ?_
            exact ml_ret rfl (rfl) (⟨⟨_, rfl⟩, rfl⟩)
        · have c_29 : ¬ (6 ≤ (x2 - i17_4)) := of_decide_eq_false c_29
          refine ml_st (S' := (33, [(0, .ref a), (2, .int x2), (3, .int u4), (4, .int i17_4), (5, .int i17_5)], [.int (-1)], M)) rfl rfl rfl ?_
          exact ml_ret rfl (rfl) (⟨⟨_, rfl⟩, rfl⟩)
  exact L_17 _ (x1 + 2) 0 (Nat.le_refl _) 
set_option maxHeartbeats 2000000 in
theorem tw_At_codeEnd {g : xe_G} {M : mi_H} {Y : yT} {a c b p vd da n : Nat} {pp : List Nat} {x1 x2 : Int32}  (hW : WF g Y M) (hY0 : Y.1 a = some (0, [c, b, p, vd])) (hY1 : Y.1 c = some (3, [b, da, n])) (hY2 : Y.1 b = some (1, [da, n])) (hY3 : Y.1 p = some (7, pp)) (hY4 : Y.1 vd = some (10, [])) {d : Nat} (hd : 3 ≤ d) : mt (mT g) d 29 [.ref a, .int x1, .int x2] M (pI M) := by
  obtain ⟨d, rfl⟩ : ∃ e, d = e + 1 := ⟨d - 1, by omega⟩
  have hS : st g Y M M := st.rf hW
  refine mt_in (b := mb_29 g) rfl rfl ?_
  show ml (mT g) d (mb_29 g).2 (0, [(0, .ref a), (1, .int x1), (2, .int x2)], [], M) _
  refine ml_blk 3 (S' := (3, [(0, .ref a), (1, .int x1), (2, .int x2)], [.int (x2 - x1)], M)) rfl ?_
  refine ml_st (S' := (5, [(0, .ref a), (1, .int x1), (2, .int x2)], [.int 8, .int (x2 - x1)], M)) rfl rfl rfl ?_
  refine ml_if2 (S1 := (10, [(0, .ref a), (1, .int x1), (2, .int x2)], [], M)) (S2 := (8, [(0, .ref a), (1, .int x1), (2, .int x2)], [], M)) rfl rfl rfl (fun c_5 => ?_) (fun c_5 => ?_)
  · have c_5 : 8 ≤ (x2 - x1) := of_decide_eq_true c_5
    refine ml_st (S' := (11, [(0, .ref a), (1, .int x1), (2, .int x2)], [.ref a], M)) rfl rfl rfl ?_
    refine tg_ref (S' := (14, [(0, .ref a), (1, .int x1), (2, .int x2)], [.ref b], M)) rfl hS.1 hY0 (by decide) rfl rfl ?_
    refine ml_blk 3 (S' := (17, [(0, .ref a), (1, .int x1), (2, .int x2)], [.int (x1 + 4), .ref b], M)) rfl ?_
    refine ml_call (a := [.ref b, .int (x1 + 4)]) (rest := []) rfl (okc_t rfl rfl rfl hS.1 hY2 (by decide)) rfl rfl (tq_u4 hS.1 hY2 (by omega)) (fun v1 M2 h3 => ?_)
    obtain ⟨⟨u4, rfl⟩, h3⟩ := h3
    rw [h3]
    show ml _ _ _ (20, [(0, .ref a), (1, .int x1), (2, .int x2)], [.int u4], M) _
    refine ml_st (S' := (21, [(3, .int u4), (0, .ref a), (1, .int x1), (2, .int x2)], [], M)) rfl rfl rfl ?_
    refine ml_st (S' := (22, [(3, .int u4), (0, .ref a), (1, .int x1), (2, .int x2)], [.int u4], M)) rfl rfl rfl ?_
    refine ml_if (S1 := (35, [], [], M)) (S2 := (25, [(3, .int u4), (0, .ref a), (1, .int x1), (2, .int x2)], [], M)) rfl rfl rfl (fun c_22 => ?_) (fun c_22 => ?_)
    · have c_22 : u4 < 0 := of_decide_eq_true c_22
      refine ml_st (S' := (36, [], [.int (-1)], M)) rfl rfl rfl ?_
      exact ml_ret rfl (rfl) (⟨⟨_, rfl⟩, rfl⟩)
    · have c_22 : ¬ (u4 < 0) := of_decide_eq_false c_22
      refine ml_blk 3 (S' := (28, [(3, .int u4), (0, .ref a), (1, .int x1), (2, .int x2)], [.int x1, .int x2, .int u4], M)) rfl ?_
      refine ml_blk 3 (S' := (32, [(3, .int u4), (0, .ref a), (1, .int x1), (2, .int x2)], [.int ((x2 - x1) - 8), .int u4], M)) rfl ?_
      refine ml_if2 (S1 := (37, [(3, .int u4), (0, .ref a), (1, .int x1), (2, .int x2)], [], M)) (S2 := (35, [], [], M)) rfl rfl rfl (fun c_32 => ?_) (fun c_32 => ?_)
      · have c_32 : u4 ≤ ((x2 - x1) - 8) := of_decide_eq_true c_32
        refine ml_blk 3 (S' := (41, [(3, .int u4), (0, .ref a), (1, .int x1), (2, .int x2)], [.int (x1 + 8)], M)) rfl ?_
        refine ml_blk 2 (S' := (43, [(3, .int u4), (0, .ref a), (1, .int x1), (2, .int x2)], [.int ((x1 + 8) + u4)], M)) rfl ?_
        refine ml_st (S' := (45, [(4, .int ((x1 + 8) + u4)), (3, .int u4), (0, .ref a), (1, .int x1), (2, .int x2)], [], M)) rfl rfl rfl ?_
        refine ml_blk 3 (S' := (49, [(4, .int ((x1 + 8) + u4)), (3, .int u4), (0, .ref a), (1, .int x1), (2, .int x2)], [.int (x2 - ((x1 + 8) + u4))], M)) rfl ?_
        refine ml_st (S' := (50, [(4, .int ((x1 + 8) + u4)), (3, .int u4), (0, .ref a), (1, .int x1), (2, .int x2)], [.int 2, .int (x2 - ((x1 + 8) + u4))], M)) rfl rfl rfl ?_
        refine ml_if2 (S1 := (74, [], [], M)) (S2 := (53, [(4, .int ((x1 + 8) + u4)), (3, .int u4), (0, .ref a), (1, .int x1), (2, .int x2)], [], M)) rfl rfl rfl (fun c_50 => ?_) (fun c_50 => ?_)
        · have c_50 : (x2 - ((x1 + 8) + u4)) < 2 := of_decide_eq_true c_50
          refine ml_st (S' := (75, [], [.int (-1)], M)) rfl rfl rfl ?_
          exact ml_ret rfl (rfl) (⟨⟨_, rfl⟩, rfl⟩)
        · have c_50 : ¬ ((x2 - ((x1 + 8) + u4)) < 2) := of_decide_eq_false c_50
          refine ml_blk 3 (S' := (57, [(4, .int ((x1 + 8) + u4)), (3, .int u4), (0, .ref a), (1, .int x1), (2, .int x2)], [.int (x2 - ((x1 + 8) + u4))], M)) rfl ?_
          refine ml_blk 3 (S' := (61, [(4, .int ((x1 + 8) + u4)), (3, .int u4), (0, .ref a), (1, .int x1), (2, .int x2)], [.int 8, .int ((x2 - ((x1 + 8) + u4)) - 2)], M)) rfl ?_
          refine ml_st (S' := (62, [(4, .int ((x1 + 8) + u4)), (3, .int u4), (0, .ref a), (1, .int x1), (2, .int x2)], [.ref a, .int 8, .int ((x2 - ((x1 + 8) + u4)) - 2)], M)) rfl rfl rfl ?_
          refine tg_ref (S' := (65, [(4, .int ((x1 + 8) + u4)), (3, .int u4), (0, .ref a), (1, .int x1), (2, .int x2)], [.ref b, .int 8, .int ((x2 - ((x1 + 8) + u4)) - 2)], M)) rfl hS.1 hY0 (by decide) rfl rfl ?_
          refine ml_st (S' := (67, [(4, .int ((x1 + 8) + u4)), (3, .int u4), (0, .ref a), (1, .int x1), (2, .int x2)], [.int ((x1 + 8) + u4), .ref b, .int 8, .int ((x2 - ((x1 + 8) + u4)) - 2)], M)) rfl rfl rfl ?_
          refine ml_call (a := [.ref b, .int ((x1 + 8) + u4)]) (rest := [.int 8, .int ((x2 - ((x1 + 8) + u4)) - 2)]) rfl (okc_t rfl rfl rfl hS.1 hY2 (by decide)) rfl rfl (tq_u2 hS.1 hY2 (by omega)) (fun v5 M6 h7 => ?_)
          obtain ⟨⟨u8, rfl⟩, h7⟩ := h7
          rw [h7]
          show ml _ _ _ (70, [(4, .int ((x1 + 8) + u4)), (3, .int u4), (0, .ref a), (1, .int x1), (2, .int x2)], [.int u8, .int 8, .int ((x2 - ((x1 + 8) + u4)) - 2)], M) _
          refine ml_st (S' := (71, [(4, .int ((x1 + 8) + u4)), (3, .int u4), (0, .ref a), (1, .int x1), (2, .int x2)], [.int (8 * u8), .int ((x2 - ((x1 + 8) + u4)) - 2)], M)) rfl rfl rfl ?_
          refine ml_if2 (S1 := (76, [(4, .int ((x1 + 8) + u4)), (3, .int u4), (0, .ref a), (1, .int x1), (2, .int x2)], [], M)) (S2 := (74, [], [], M)) rfl rfl rfl (fun c_71 => ?_) (fun c_71 => ?_)
          · have c_71 : (8 * u8) ≤ ((x2 - ((x1 + 8) + u4)) - 2) := of_decide_eq_true c_71
            refine ml_blk 3 (S' := (80, [(4, .int ((x1 + 8) + u4)), (3, .int u4), (0, .ref a), (1, .int x1), (2, .int x2)], [.int (((x1 + 8) + u4) + 2)], M)) rfl ?_
            refine ml_blk 2 (S' := (83, [(4, .int ((x1 + 8) + u4)), (3, .int u4), (0, .ref a), (1, .int x1), (2, .int x2)], [.ref a, .int 8, .int (((x1 + 8) + u4) + 2)], M)) rfl ?_
            refine tg_ref (S' := (86, [(4, .int ((x1 + 8) + u4)), (3, .int u4), (0, .ref a), (1, .int x1), (2, .int x2)], [.ref b, .int 8, .int (((x1 + 8) + u4) + 2)], M)) rfl hS.1 hY0 (by decide) rfl rfl ?_
            refine ml_st (S' := (88, [(4, .int ((x1 + 8) + u4)), (3, .int u4), (0, .ref a), (1, .int x1), (2, .int x2)], [.int ((x1 + 8) + u4), .ref b, .int 8, .int (((x1 + 8) + u4) + 2)], M)) rfl rfl rfl ?_
            refine ml_call (a := [.ref b, .int ((x1 + 8) + u4)]) (rest := [.int 8, .int (((x1 + 8) + u4) + 2)]) rfl (okc_t rfl rfl rfl hS.1 hY2 (by decide)) rfl rfl (tq_u2 hS.1 hY2 (by omega)) (fun v9 M10 h11 => ?_)
            obtain ⟨⟨u12, rfl⟩, h11⟩ := h11
            rw [h11]
            show ml _ _ _ (91, [(4, .int ((x1 + 8) + u4)), (3, .int u4), (0, .ref a), (1, .int x1), (2, .int x2)], [.int u12, .int 8, .int (((x1 + 8) + u4) + 2)], M) _
            refine ml_blk 2 (S' := (93, [(4, .int ((x1 + 8) + u4)), (3, .int u4), (0, .ref a), (1, .int x1), (2, .int x2)], [.int ((((x1 + 8) + u4) + 2) + (8 * u12))], M)) rfl ?_
            refine ml_st (S' := (95, [(5, .int ((((x1 + 8) + u4) + 2) + (8 * u12))), (4, .int ((x1 + 8) + u4)), (3, .int u4), (0, .ref a), (1, .int x1), (2, .int x2)], [], M)) rfl rfl rfl ?_
            refine ml_blk 3 (S' := (99, [(5, .int ((((x1 + 8) + u4) + 2) + (8 * u12))), (4, .int ((x1 + 8) + u4)), (3, .int u4), (0, .ref a), (1, .int x1), (2, .int x2)], [.int (x2 - ((((x1 + 8) + u4) + 2) + (8 * u12)))], M)) rfl ?_
            refine ml_st (S' := (100, [(5, .int ((((x1 + 8) + u4) + 2) + (8 * u12))), (4, .int ((x1 + 8) + u4)), (3, .int u4), (0, .ref a), (1, .int x1), (2, .int x2)], [.int 2, .int (x2 - ((((x1 + 8) + u4) + 2) + (8 * u12)))], M)) rfl rfl rfl ?_
            refine ml_if2 (S1 := (105, [(5, .int ((((x1 + 8) + u4) + 2) + (8 * u12))), (4, .int ((x1 + 8) + u4)), (3, .int u4), (0, .ref a), (1, .int x1), (2, .int x2)], [], M)) (S2 := (103, [(5, .int ((((x1 + 8) + u4) + 2) + (8 * u12))), (4, .int ((x1 + 8) + u4)), (3, .int u4), (0, .ref a), (1, .int x1), (2, .int x2)], [], M)) rfl rfl rfl (fun c_100 => ?_) (fun c_100 => ?_)
            · have c_100 : 2 ≤ (x2 - ((((x1 + 8) + u4) + 2) + (8 * u12))) := of_decide_eq_true c_100
              refine ml_st (S' := (106, [(5, .int ((((x1 + 8) + u4) + 2) + (8 * u12))), (4, .int ((x1 + 8) + u4)), (3, .int u4), (0, .ref a), (1, .int x1), (2, .int x2)], [.ref a], M)) rfl rfl rfl ?_
              refine tg_ref (S' := (109, [(5, .int ((((x1 + 8) + u4) + 2) + (8 * u12))), (4, .int ((x1 + 8) + u4)), (3, .int u4), (0, .ref a), (1, .int x1), (2, .int x2)], [.ref b], M)) rfl hS.1 hY0 (by decide) rfl rfl ?_
              refine ml_blk 3 (S' := (113, [(5, .int ((((x1 + 8) + u4) + 2) + (8 * u12))), (4, .int ((x1 + 8) + u4)), (3, .int u4), (0, .ref a), (1, .int x1), (2, .int x2)], [.int (((((x1 + 8) + u4) + 2) + (8 * u12)) + 2), .ref b], M)) rfl ?_
              refine ml_st (S' := (114, [(5, .int ((((x1 + 8) + u4) + 2) + (8 * u12))), (4, .int ((x1 + 8) + u4)), (3, .int u4), (0, .ref a), (1, .int x1), (2, .int x2)], [.ref a, .int (((((x1 + 8) + u4) + 2) + (8 * u12)) + 2), .ref b], M)) rfl rfl rfl ?_
              refine tg_ref (S' := (117, [(5, .int ((((x1 + 8) + u4) + 2) + (8 * u12))), (4, .int ((x1 + 8) + u4)), (3, .int u4), (0, .ref a), (1, .int x1), (2, .int x2)], [.ref b, .int (((((x1 + 8) + u4) + 2) + (8 * u12)) + 2), .ref b], M)) rfl hS.1 hY0 (by decide) rfl rfl ?_
              refine ml_st (S' := (119, [(5, .int ((((x1 + 8) + u4) + 2) + (8 * u12))), (4, .int ((x1 + 8) + u4)), (3, .int u4), (0, .ref a), (1, .int x1), (2, .int x2)], [.int ((((x1 + 8) + u4) + 2) + (8 * u12)), .ref b, .int (((((x1 + 8) + u4) + 2) + (8 * u12)) + 2), .ref b], M)) rfl rfl rfl ?_
              refine ml_call (a := [.ref b, .int ((((x1 + 8) + u4) + 2) + (8 * u12))]) (rest := [.int (((((x1 + 8) + u4) + 2) + (8 * u12)) + 2), .ref b]) rfl (okc_t rfl rfl rfl hS.1 hY2 (by decide)) rfl rfl (tq_u2 hS.1 hY2 (by omega)) (fun v13 M14 h15 => ?_)
              obtain ⟨⟨u16, rfl⟩, h15⟩ := h15
              rw [h15]
              show ml _ _ _ (122, [(5, .int ((((x1 + 8) + u4) + 2) + (8 * u12))), (4, .int ((x1 + 8) + u4)), (3, .int u4), (0, .ref a), (1, .int x1), (2, .int x2)], [.int u16, .int (((((x1 + 8) + u4) + 2) + (8 * u12)) + 2), .ref b], M) _
              refine ml_st (S' := (123, [(5, .int ((((x1 + 8) + u4) + 2) + (8 * u12))), (4, .int ((x1 + 8) + u4)), (3, .int u4), (0, .ref a), (1, .int x1), (2, .int x2)], [.int x2, .int u16, .int (((((x1 + 8) + u4) + 2) + (8 * u12)) + 2), .ref b], M)) rfl rfl rfl ?_
              refine ml_call (a := [.ref b, .int (((((x1 + 8) + u4) + 2) + (8 * u12)) + 2), .int u16, .int x2]) (rest := []) rfl (okc_t rfl rfl rfl hS.1 hY2 (by decide)) rfl rfl (tq_attributesEnd hS.1 hY2 (by omega)) (fun v17 M18 h19 => ?_)
              obtain ⟨⟨u20, rfl⟩, h19⟩ := h19
              rw [h19]
              show ml _ _ _ (126, [(5, .int ((((x1 + 8) + u4) + 2) + (8 * u12))), (4, .int ((x1 + 8) + u4)), (3, .int u4), (0, .ref a), (1, .int x1), (2, .int x2)], [.int u20], M) _
              exact ml_ret rfl (rfl) (⟨⟨_, rfl⟩, rfl⟩)
            · have c_100 : ¬ (2 ≤ (x2 - ((((x1 + 8) + u4) + 2) + (8 * u12)))) := of_decide_eq_false c_100
              refine ml_st (S' := (104, [(5, .int ((((x1 + 8) + u4) + 2) + (8 * u12))), (4, .int ((x1 + 8) + u4)), (3, .int u4), (0, .ref a), (1, .int x1), (2, .int x2)], [.int (-1)], M)) rfl rfl rfl ?_
              exact ml_ret rfl (rfl) (⟨⟨_, rfl⟩, rfl⟩)
          · have c_71 : ¬ ((8 * u8) ≤ ((x2 - ((x1 + 8) + u4)) - 2)) := of_decide_eq_false c_71
            refine ml_st (S' := (75, [], [.int (-1)], M)) rfl rfl rfl ?_
            exact ml_ret rfl (rfl) (⟨⟨_, rfl⟩, rfl⟩)
      · have c_32 : ¬ (u4 ≤ ((x2 - x1) - 8)) := of_decide_eq_false c_32
        refine ml_st (S' := (36, [], [.int (-1)], M)) rfl rfl rfl ?_
        exact ml_ret rfl (rfl) (⟨⟨_, rfl⟩, rfl⟩)
  · have c_5 : ¬ (8 ≤ (x2 - x1)) := of_decide_eq_false c_5
    refine ml_st (S' := (9, [(0, .ref a), (1, .int x1), (2, .int x2)], [.int (-1)], M)) rfl rfl rfl ?_
    exact ml_ret rfl (rfl) (⟨⟨_, rfl⟩, rfl⟩)
set_option maxHeartbeats 2000000 in
theorem tw_At_formEnd {g : xe_G} {M : mi_H} {Y : yT} {a c b p vd da n : Nat} {pp : List Nat} {x1 x2 x3 : Int32}  (hW : WF g Y M) (hY0 : Y.1 a = some (0, [c, b, p, vd])) (hY1 : Y.1 c = some (3, [b, da, n])) (hY2 : Y.1 b = some (1, [da, n])) (hY3 : Y.1 p = some (7, pp)) (hY4 : Y.1 vd = some (10, [])) {d : Nat} (hd : 4 ≤ d) : mt (mT g) d 32 [.ref a, .int x1, .int x2, .int x3] M (pI M) := by
  obtain ⟨d, rfl⟩ : ∃ e, d = e + 1 := ⟨d - 1, by omega⟩
  have hS : st g Y M M := st.rf hW
  refine mt_in (b := mb_32 g) rfl rfl ?_
  show ml (mT g) d (mb_32 g).2 (0, [(0, .ref a), (1, .int x1), (2, .int x2), (3, .int x3)], [], M) _
  refine ml_blk 3 (S' := (3, [(0, .ref a), (1, .int x1), (2, .int x2), (3, .int x3)], [.int (x3 - x2)], M)) rfl ?_
  refine ml_st (S' := (4, [(0, .ref a), (1, .int x1), (2, .int x2), (3, .int x3)], [.int 2, .int (x3 - x2)], M)) rfl rfl rfl ?_
  refine ml_if2 (S1 := (9, [(0, .ref a), (1, .int x1), (2, .int x2), (3, .int x3)], [], M)) (S2 := (7, [(0, .ref a), (1, .int x1), (2, .int x2), (3, .int x3)], [], M)) rfl rfl rfl (fun c_4 => ?_) (fun c_4 => ?_)
  · have c_4 : 2 ≤ (x3 - x2) := of_decide_eq_true c_4
    refine ml_st (S' := (10, [(0, .ref a), (1, .int x1), (2, .int x2), (3, .int x3)], [.int x1], M)) rfl rfl rfl ?_
    refine ml_sw rfl (fun t_10 ht_10 => ?_)
    have kt_10 := ht_10
    have ht_10 : t_10 ∈ [64, 68, 83, 99, 106, 113] := mi_sw_sub ht_10 (by decide)
    simp only [List.mem_cons, List.not_mem_nil, or_false] at ht_10
    rcases ht_10 with rfl | rfl | rfl | rfl | rfl | rfl
    · show ml _ _ _ (64, [(0, .ref a), (1, .int x1), (2, .int x2), (3, .int x3)], [], M) _
      refine ml_blk 3 (S' := (67, [(0, .ref a), (1, .int x1), (2, .int x2), (3, .int x3)], [.int (x2 + 2)], M)) rfl ?_
      exact ml_ret rfl (rfl) (⟨⟨_, rfl⟩, rfl⟩)
    · show ml _ _ _ (68, [(0, .ref a), (1, .int x1), (2, .int x2), (3, .int x3)], [], M) _
      refine ml_blk 3 (S' := (71, [(0, .ref a), (1, .int x1), (2, .int x2), (3, .int x3)], [.int (x2 + 2)], M)) rfl ?_
      refine ml_blk 2 (S' := (73, [(0, .ref a), (1, .int x1), (2, .int x2), (3, .int x3)], [.ref a, .int 2, .int (x2 + 2)], M)) rfl ?_
      refine tg_ref (S' := (76, [(0, .ref a), (1, .int x1), (2, .int x2), (3, .int x3)], [.ref b, .int 2, .int (x2 + 2)], M)) rfl hS.1 hY0 (by decide) rfl rfl ?_
      refine ml_st (S' := (77, [(0, .ref a), (1, .int x1), (2, .int x2), (3, .int x3)], [.int x2, .ref b, .int 2, .int (x2 + 2)], M)) rfl rfl rfl ?_
      refine ml_call (a := [.ref b, .int x2]) (rest := [.int 2, .int (x2 + 2)]) rfl (okc_t rfl rfl rfl hS.1 hY2 (by decide)) rfl rfl (tq_u2 hS.1 hY2 (by omega)) (fun v1 M2 h3 => ?_)
      obtain ⟨⟨u4, rfl⟩, h3⟩ := h3
      rw [h3]
      show ml _ _ _ (80, [(0, .ref a), (1, .int x1), (2, .int x2), (3, .int x3)], [.int u4, .int 2, .int (x2 + 2)], M) _
      refine ml_blk 2 (S' := (82, [(0, .ref a), (1, .int x1), (2, .int x2), (3, .int x3)], [.int ((x2 + 2) + (2 * u4))], M)) rfl ?_
      exact ml_ret rfl (rfl) (⟨⟨_, rfl⟩, rfl⟩)
    · show ml _ _ _ (83, [(0, .ref a), (1, .int x1), (2, .int x2), (3, .int x3)], [], M) _
      refine ml_blk 3 (S' := (86, [(0, .ref a), (1, .int x1), (2, .int x2), (3, .int x3)], [.int (x2 + 2)], M)) rfl ?_
      refine ml_blk 2 (S' := (89, [(0, .ref a), (1, .int x1), (2, .int x2), (3, .int x3)], [.ref a, .int 8, .int (x2 + 2)], M)) rfl ?_
      refine tg_ref (S' := (92, [(0, .ref a), (1, .int x1), (2, .int x2), (3, .int x3)], [.ref b, .int 8, .int (x2 + 2)], M)) rfl hS.1 hY0 (by decide) rfl rfl ?_
      refine ml_st (S' := (93, [(0, .ref a), (1, .int x1), (2, .int x2), (3, .int x3)], [.int x2, .ref b, .int 8, .int (x2 + 2)], M)) rfl rfl rfl ?_
      refine ml_call (a := [.ref b, .int x2]) (rest := [.int 8, .int (x2 + 2)]) rfl (okc_t rfl rfl rfl hS.1 hY2 (by decide)) rfl rfl (tq_u2 hS.1 hY2 (by omega)) (fun v5 M6 h7 => ?_)
      obtain ⟨⟨u8, rfl⟩, h7⟩ := h7
      rw [h7]
      show ml _ _ _ (96, [(0, .ref a), (1, .int x1), (2, .int x2), (3, .int x3)], [.int u8, .int 8, .int (x2 + 2)], M) _
      refine ml_blk 2 (S' := (98, [(0, .ref a), (1, .int x1), (2, .int x2), (3, .int x3)], [.int ((x2 + 2) + (8 * u8))], M)) rfl ?_
      exact ml_ret rfl (rfl) (⟨⟨_, rfl⟩, rfl⟩)
    · show ml _ _ _ (99, [(0, .ref a), (1, .int x1), (2, .int x2), (3, .int x3)], [], M) _
      refine ml_blk 3 (S' := (102, [(0, .ref a), (1, .int x1), (2, .int x2), (3, .int x3)], [.int x3, .int x2, .ref a], M)) rfl ?_
      refine ml_call (a := [.ref a, .int x2, .int x3]) (rest := []) rfl (okc_t rfl rfl rfl hS.1 hY0 (by decide)) rfl rfl (tw_At_bootstrapsEnd hS.1 hY0 hY1 hY2 hY3 hY4 (by omega)) (fun v9 M10 h11 => ?_)
      obtain ⟨⟨u12, rfl⟩, h11⟩ := h11
      rw [h11]
      show ml _ _ _ (105, [(0, .ref a), (1, .int x1), (2, .int x2), (3, .int x3)], [.int u12], M) _
      exact ml_ret rfl (rfl) (⟨⟨_, rfl⟩, rfl⟩)
    · show ml _ _ _ (106, [(0, .ref a), (1, .int x1), (2, .int x2), (3, .int x3)], [], M) _
      refine ml_blk 3 (S' := (109, [(0, .ref a), (1, .int x1), (2, .int x2), (3, .int x3)], [.int x3, .int x2, .ref a], M)) rfl ?_
      refine ml_call (a := [.ref a, .int x2, .int x3]) (rest := []) rfl (okc_t rfl rfl rfl hS.1 hY0 (by decide)) rfl rfl (tw_At_recordEnd hS.1 hY0 hY1 hY2 hY3 hY4 (by omega)) (fun v13 M14 h15 => ?_)
      obtain ⟨⟨u16, rfl⟩, h15⟩ := h15
      rw [h15]
      show ml _ _ _ (112, [(0, .ref a), (1, .int x1), (2, .int x2), (3, .int x3)], [.int u16], M) _
      exact ml_ret rfl (rfl) (⟨⟨_, rfl⟩, rfl⟩)
    · show ml _ _ _ (113, [(0, .ref a), (1, .int x1), (2, .int x2), (3, .int x3)], [], M) _
      refine ml_blk 3 (S' := (116, [(0, .ref a), (1, .int x1), (2, .int x2), (3, .int x3)], [.int x3, .int x2, .ref a], M)) rfl ?_
      refine ml_call (a := [.ref a, .int x2, .int x3]) (rest := []) rfl (okc_t rfl rfl rfl hS.1 hY0 (by decide)) rfl rfl (tw_At_codeEnd hS.1 hY0 hY1 hY2 hY3 hY4 (by omega)) (fun v17 M18 h19 => ?_)
      obtain ⟨⟨u20, rfl⟩, h19⟩ := h19
      rw [h19]
      show ml _ _ _ (119, [(0, .ref a), (1, .int x1), (2, .int x2), (3, .int x3)], [.int u20], M) _
      exact ml_ret rfl (rfl) (⟨⟨_, rfl⟩, rfl⟩)
  · have c_4 : ¬ (2 ≤ (x3 - x2)) := of_decide_eq_false c_4
    refine ml_st (S' := (8, [(0, .ref a), (1, .int x1), (2, .int x2), (3, .int x3)], [.int (-1)], M)) rfl rfl rfl ?_
    exact ml_ret rfl (rfl) (⟨⟨_, rfl⟩, rfl⟩)
set_option maxHeartbeats 2000000 in
theorem tw_At_constantTag {g : xe_G} {M : mi_H} {Y : yT} {a c b p vd da n : Nat} {pp : List Nat} {x1 : Int32}  (hW : WF g Y M) (hY0 : Y.1 a = some (0, [c, b, p, vd])) (hY1 : Y.1 c = some (3, [b, da, n])) (hY2 : Y.1 b = some (1, [da, n])) (hY3 : Y.1 p = some (7, pp)) (hY4 : Y.1 vd = some (10, [])) {d : Nat} (hd : 3 ≤ d) : mt (mT g) d 31 [.ref a, .int x1] M (pI M) := by
  obtain ⟨d, rfl⟩ : ∃ e, d = e + 1 := ⟨d - 1, by omega⟩
  have hS : st g Y M M := st.rf hW
  refine mt_in (b := mb_31 g) rfl rfl ?_
  show ml (mT g) d (mb_31 g).2 (0, [(0, .ref a), (1, .int x1)], [], M) _
  refine ml_st (S' := (1, [(0, .ref a), (1, .int x1)], [.ref a], M)) rfl rfl rfl ?_
  refine tg_ref (S' := (4, [(0, .ref a), (1, .int x1)], [.ref p], M)) rfl hS.1 hY0 (by decide) rfl rfl ?_
  refine ml_blk 2 (S' := (7, [(0, .ref a), (1, .int x1)], [.ref (g.2.1 9), .int x1, .ref p], M)) rfl ?_
  refine ml_call (a := [.ref p, .int x1, .ref (g.2.1 9)]) (rest := []) rfl (okc_t rfl rfl rfl hS.1 hY3 (by decide)) rfl rfl (tq_textIs (lk := 9) hS.1 hY3 (by decide) (by omega)) (fun v1 M2 h3 => ?_)
  obtain ⟨⟨x4, rfl, z5⟩, h3⟩ := h3
  rw [h3]
  show ml _ _ _ (10, [(0, .ref a), (1, .int x1)], [.int x4], M) _
  refine ml_if (S1 := (16, [(0, .ref a), (1, .int x1)], [], M)) (S2 := (13, [(0, .ref a), (1, .int x1)], [], M)) rfl rfl rfl (fun c_10 => ?_) (fun c_10 => ?_)
  · have c_10 : x4 = 0 := of_decide_eq_true c_10
    refine ml_st (S' := (17, [(0, .ref a), (1, .int x1)], [.ref a], M)) rfl rfl rfl ?_
    refine tg_ref (S' := (20, [(0, .ref a), (1, .int x1)], [.ref p], M)) rfl hS.1 hY0 (by decide) rfl rfl ?_
    refine ml_st (S' := (21, [(0, .ref a), (1, .int x1)], [.int x1, .ref p], M)) rfl rfl rfl ?_
    refine ml_call (a := [.ref p, .int x1]) (rest := []) rfl (okc_t rfl rfl rfl hS.1 hY3 (by decide)) rfl rfl (tq_textLength hS.1 hY3 (by omega)) (fun v6 M7 h8 => ?_)
    obtain ⟨⟨u9, rfl⟩, h8⟩ := h8
    rw [h8]
    show ml _ _ _ (24, [(0, .ref a), (1, .int x1)], [.int u9], M) _
    refine ml_st (S' := (25, [(0, .ref a), (1, .int x1)], [.int 1, .int u9], M)) rfl rfl rfl ?_
    refine ml_if2 (S1 := (30, [(0, .ref a), (1, .int x1)], [], M)) (S2 := (28, [(0, .ref a), (1, .int x1)], [], M)) rfl rfl rfl (fun c_25 => ?_) (fun c_25 => ?_)
    · have c_25 : u9 = 1 := of_decide_eq_true c_25
      refine ml_st (S' := (31, [(0, .ref a), (1, .int x1)], [.ref a], M)) rfl rfl rfl ?_
      refine tg_ref (S' := (34, [(0, .ref a), (1, .int x1)], [.ref p], M)) rfl hS.1 hY0 (by decide) rfl rfl ?_
      refine ml_blk 2 (S' := (36, [(0, .ref a), (1, .int x1)], [.int 0, .int x1, .ref p], M)) rfl ?_
      refine ml_call (a := [.ref p, .int x1, .int 0]) (rest := []) rfl (okc_t rfl rfl rfl hS.1 hY3 (by decide)) rfl rfl (tq_characterAt hS.1 hY3 (by omega)) (fun v10 M11 h12 => ?_)
      obtain ⟨⟨u13, rfl⟩, h12⟩ := h12
      rw [h12]
      show ml _ _ _ (39, [(0, .ref a), (1, .int x1)], [.int u13], M) _
      refine ml_sw rfl (fun t_39 ht_39 => ?_)
      have kt_39 := ht_39
      have ht_39 : t_39 ∈ [72, 74, 76, 79] := mi_sw_sub ht_39 (by decide)
      simp only [List.mem_cons, List.not_mem_nil, or_false] at ht_39
      rcases ht_39 with rfl | rfl | rfl | rfl
      · show ml _ _ _ (72, [(0, .ref a), (1, .int x1)], [], M) _
        refine ml_st (S' := (73, [(0, .ref a), (1, .int x1)], [.int 4], M)) rfl rfl rfl ?_
        exact ml_ret rfl (rfl) (⟨⟨_, rfl⟩, rfl⟩)
      · show ml _ _ _ (74, [(0, .ref a), (1, .int x1)], [], M) _
        refine ml_st (S' := (75, [(0, .ref a), (1, .int x1)], [.int 5], M)) rfl rfl rfl ?_
        exact ml_ret rfl (rfl) (⟨⟨_, rfl⟩, rfl⟩)
      · show ml _ _ _ (76, [(0, .ref a), (1, .int x1)], [], M) _
        refine ml_st (S' := (78, [(0, .ref a), (1, .int x1)], [.int 6], M)) rfl rfl rfl ?_
        exact ml_ret rfl (rfl) (⟨⟨_, rfl⟩, rfl⟩)
      · show ml _ _ _ (79, [(0, .ref a), (1, .int x1)], [], M) _
        refine ml_st (S' := (80, [(0, .ref a), (1, .int x1)], [.int 3], M)) rfl rfl rfl ?_
        exact ml_ret rfl (rfl) (⟨⟨_, rfl⟩, rfl⟩)
    · have c_25 : ¬ (u9 = 1) := of_decide_eq_false c_25
      refine ml_st (S' := (29, [(0, .ref a), (1, .int x1)], [.int (-1)], M)) rfl rfl rfl ?_
      exact ml_ret rfl (rfl) (⟨⟨_, rfl⟩, rfl⟩)
  · have c_10 : ¬ (x4 = 0) := of_decide_eq_false c_10
    refine ml_st (S' := (15, [(0, .ref a), (1, .int x1)], [.int 8], M)) rfl rfl rfl ?_
    exact ml_ret rfl (rfl) (⟨⟨_, rfl⟩, rfl⟩)
set_option maxHeartbeats 2000000 in
theorem tw_At_areClasses {g : xe_G} {M : mi_H} {Y : yT} {a c b p vd da n : Nat} {pp : List Nat} {x1 : Int32}  (hW : WF g Y M) (hY0 : Y.1 a = some (0, [c, b, p, vd])) (hY1 : Y.1 c = some (3, [b, da, n])) (hY2 : Y.1 b = some (1, [da, n])) (hY3 : Y.1 p = some (7, pp)) (hY4 : Y.1 vd = some (10, [])) {d : Nat} (hd : 2 ≤ d) : mt (mT g) d 22 [.ref a, .int x1] M (pZ M) := by
  obtain ⟨d, rfl⟩ : ∃ e, d = e + 1 := ⟨d - 1, by omega⟩
  have hS : st g Y M M := st.rf hW
  refine mt_in (b := mb_22 g) rfl rfl ?_
  show ml (mT g) d (mb_22 g).2 (0, [(0, .ref a), (1, .int x1)], [], M) _
  refine ml_st (S' := (1, [(0, .ref a), (1, .int x1)], [.ref a], M)) rfl rfl rfl ?_
  refine tg_ref (S' := (4, [(0, .ref a), (1, .int x1)], [.ref b], M)) rfl hS.1 hY0 (by decide) rfl rfl ?_
  refine ml_blk 3 (S' := (8, [(0, .ref a), (1, .int x1)], [.int (x1 + 6), .ref b], M)) rfl ?_
  refine ml_call (a := [.ref b, .int (x1 + 6)]) (rest := []) rfl (okc_t rfl rfl rfl hS.1 hY2 (by decide)) rfl rfl (tq_u2 hS.1 hY2 (by omega)) (fun v1 M2 h3 => ?_)
  obtain ⟨⟨u4, rfl⟩, h3⟩ := h3
  rw [h3]
  show ml _ _ _ (11, [(0, .ref a), (1, .int x1)], [.int u4], M) _
  refine ml_st (S' := (12, [(2, .int u4), (0, .ref a), (1, .int x1)], [], M)) rfl rfl rfl ?_
  refine ml_st (S' := (13, [(2, .int u4), (0, .ref a), (1, .int x1)], [.int 0], M)) rfl rfl rfl ?_
  refine ml_st (S' := (14, [(0, .ref a), (1, .int x1), (2, .int u4), (3, .int 0)], [], M)) rfl rfl rfl ?_
  have L_14 : ∀ (n_14 : Nat) (i14_3 : Int32), (2147483648 - i14_3.toInt).toNat ≤ n_14 → ml (mT g) d (mb_22 g).2 (14, [(0, .ref a), (1, .int x1), (2, .int u4), (3, .int i14_3)], [], M) (pZ M) := by
    intro n_14
    induction n_14 with
    | zero => intro i14_3 hn; exact (loop_zero hn).elim
    | succ n_14 ih_14 =>
      intro i14_3 hn_14
      refine ml_blk 2 (S' := (16, [(0, .ref a), (1, .int x1), (2, .int u4), (3, .int i14_3)], [.int u4, .int i14_3], M)) rfl ?_
      refine ml_if2 (S1 := (54, [(0, .ref a), (1, .int x1), (2, .int u4), (3, .int i14_3)], [], M)) (S2 := (19, [(0, .ref a), (1, .int x1), (2, .int u4), (3, .int i14_3)], [], M)) rfl rfl rfl (fun c_16 => ?_) (fun c_16 => ?_)
      · have c_16 : u4 ≤ i14_3 := of_decide_eq_true c_16
        refine ml_st (S' := (55, [(0, .ref a), (1, .int x1), (2, .int u4), (3, .int i14_3)], [.int 1], M)) rfl rfl rfl ?_
        exact ml_ret rfl (r_z (Or.inr rfl)) (⟨⟨_, rfl, Or.inr rfl⟩, rfl⟩)
      · have c_16 : ¬ (u4 ≤ i14_3) := of_decide_eq_false c_16
        refine ml_st (S' := (20, [(0, .ref a), (1, .int x1), (2, .int u4), (3, .int i14_3)], [.ref a], M)) rfl rfl rfl ?_
        refine tg_ref (S' := (23, [(0, .ref a), (1, .int x1), (2, .int u4), (3, .int i14_3)], [.ref p], M)) rfl hS.1 hY0 (by decide) rfl rfl ?_
        refine ml_st (S' := (24, [(0, .ref a), (1, .int x1), (2, .int u4), (3, .int i14_3)], [.ref a, .ref p], M)) rfl rfl rfl ?_
        refine tg_ref (S' := (27, [(0, .ref a), (1, .int x1), (2, .int u4), (3, .int i14_3)], [.ref b, .ref p], M)) rfl hS.1 hY0 (by decide) rfl rfl ?_
        refine ml_blk 3 (S' := (31, [(0, .ref a), (1, .int x1), (2, .int u4), (3, .int i14_3)], [.int (x1 + 8), .ref b, .ref p], M)) rfl ?_
        refine ml_blk 3 (S' := (34, [(0, .ref a), (1, .int x1), (2, .int u4), (3, .int i14_3)], [.int (2 * i14_3), .int (x1 + 8), .ref b, .ref p], M)) rfl ?_
        refine ml_st (S' := (35, [(0, .ref a), (1, .int x1), (2, .int u4), (3, .int i14_3)], [.int ((x1 + 8) + (2 * i14_3)), .ref b, .ref p], M)) rfl rfl rfl ?_
        refine ml_call (a := [.ref b, .int ((x1 + 8) + (2 * i14_3))]) (rest := [.ref p]) rfl (okc_t rfl rfl rfl hS.1 hY2 (by decide)) rfl rfl (tq_u2 hS.1 hY2 (by omega)) (fun v5 M6 h7 => ?_)
        obtain ⟨⟨u8, rfl⟩, h7⟩ := h7
        rw [h7]
        show ml _ _ _ (38, [(0, .ref a), (1, .int x1), (2, .int u4), (3, .int i14_3)], [.int u8, .ref p], M) _
        refine ml_call (a := [.ref p, .int u8]) (rest := []) rfl (okc_t rfl rfl rfl hS.1 hY3 (by decide)) rfl rfl (tq_tagOf hS.1 hY3 (by omega)) (fun v9 M10 h11 => ?_)
        obtain ⟨⟨u12, rfl⟩, h11⟩ := h11
        rw [h11]
        show ml _ _ _ (41, [(0, .ref a), (1, .int x1), (2, .int u4), (3, .int i14_3)], [.int u12], M) _
        refine ml_st (S' := (43, [(0, .ref a), (1, .int x1), (2, .int u4), (3, .int i14_3)], [.int 7, .int u12], M)) rfl rfl rfl ?_
        refine ml_if2 (S1 := (48, [(0, .ref a), (1, .int x1), (2, .int u4), (3, .int i14_3)], [], M)) (S2 := (46, [(0, .ref a), (1, .int x1), (2, .int u4), (3, .int i14_3)], [], M)) rfl rfl rfl (fun c_43 => ?_) (fun c_43 => ?_)
        · have c_43 : u12 = 7 := of_decide_eq_true c_43
          refine ml_st (S' := (51, [(3, .int (i14_3 + 1)), (0, .ref a), (1, .int x1), (2, .int u4)], [], M)) rfl rfl rfl ?_
          refine ml_st (S' := (14, [(0, .ref a), (1, .int x1), (2, .int u4), (3, .int (i14_3 + 1))], [], M)) rfl rfl rfl ?_
          exact ih_14 (i14_3 + 1) (loop_inc (Int32.not_le.mp c_16) hn_14) 
        · have c_43 : ¬ (u12 = 7) := of_decide_eq_false c_43
          refine ml_st (S' := (47, [(0, .ref a), (1, .int x1), (2, .int u4), (3, .int i14_3)], [.int 0], M)) rfl rfl rfl ?_
          exact ml_ret rfl (r_z (Or.inl rfl)) (⟨⟨_, rfl, Or.inl rfl⟩, rfl⟩)
  exact L_14 _ 0 (Nat.le_refl _) 
set_option maxHeartbeats 2000000 in
theorem tw_At_innerClassesHold {g : xe_G} {M : mi_H} {Y : yT} {a c b p vd da n : Nat} {pp : List Nat} {x1 : Int32}  (hW : WF g Y M) (hY0 : Y.1 a = some (0, [c, b, p, vd])) (hY1 : Y.1 c = some (3, [b, da, n])) (hY2 : Y.1 b = some (1, [da, n])) (hY3 : Y.1 p = some (7, pp)) (hY4 : Y.1 vd = some (10, [])) {d : Nat} (hd : 2 ≤ d) : mt (mT g) d 34 [.ref a, .int x1] M (pZ M) := by
  obtain ⟨d, rfl⟩ : ∃ e, d = e + 1 := ⟨d - 1, by omega⟩
  have hS : st g Y M M := st.rf hW
  refine mt_in (b := mb_34 g) rfl rfl ?_
  show ml (mT g) d (mb_34 g).2 (0, [(0, .ref a), (1, .int x1)], [], M) _
  refine ml_st (S' := (1, [(0, .ref a), (1, .int x1)], [.int 0], M)) rfl rfl rfl ?_
  refine ml_st (S' := (2, [(0, .ref a), (1, .int x1), (2, .int 0)], [], M)) rfl rfl rfl ?_
  have L_2 : ∀ (n_2 : Nat) (i2_2 : Int32), (2147483648 - i2_2.toInt).toNat ≤ n_2 → ml (mT g) d (mb_34 g).2 (2, [(0, .ref a), (1, .int x1), (2, .int i2_2)], [], M) (pZ M) := by
    intro n_2
    induction n_2 with
    | zero => intro i2_2 hn; exact (loop_zero hn).elim
    | succ n_2 ih_2 =>
      intro i2_2 hn_2
      refine ml_blk 2 (S' := (4, [(0, .ref a), (1, .int x1), (2, .int i2_2)], [.ref a, .int i2_2], M)) rfl ?_
      refine tg_ref (S' := (7, [(0, .ref a), (1, .int x1), (2, .int i2_2)], [.ref c, .int i2_2], M)) rfl hS.1 hY0 (by decide) rfl rfl ?_
      refine tg_int rfl hS.1 hY1 (by decide) rfl (fun u1 g2 => ?_)
      show ml _ _ _ (10, [(0, .ref a), (1, .int x1), (2, .int i2_2)], [.int u1, .int i2_2], M) _
      refine ml_if2 (S1 := (112, [(0, .ref a), (1, .int x1), (2, .int i2_2)], [], M)) (S2 := (13, [(0, .ref a), (1, .int x1), (2, .int i2_2)], [], M)) rfl rfl rfl (fun c_10 => ?_) (fun c_10 => ?_)
      · have c_10 : u1 ≤ i2_2 := of_decide_eq_true c_10
        refine ml_st (S' := (113, [(0, .ref a), (1, .int x1), (2, .int i2_2)], [.int 1], M)) rfl rfl rfl ?_
        exact ml_ret rfl (r_z (Or.inr rfl)) (⟨⟨_, rfl, Or.inr rfl⟩, rfl⟩)
      · have c_10 : ¬ (u1 ≤ i2_2) := of_decide_eq_false c_10
        refine ml_blk 3 (S' := (17, [(0, .ref a), (1, .int x1), (2, .int i2_2)], [.int (x1 + 8)], M)) rfl ?_
        refine ml_blk 3 (S' := (21, [(0, .ref a), (1, .int x1), (2, .int i2_2)], [.int (8 * i2_2), .int (x1 + 8)], M)) rfl ?_
        refine ml_st (S' := (22, [(0, .ref a), (1, .int x1), (2, .int i2_2)], [.int ((x1 + 8) + (8 * i2_2))], M)) rfl rfl rfl ?_
        refine ml_st (S' := (23, [(3, .int ((x1 + 8) + (8 * i2_2))), (0, .ref a), (1, .int x1), (2, .int i2_2)], [], M)) rfl rfl rfl ?_
        refine ml_st (S' := (24, [(3, .int ((x1 + 8) + (8 * i2_2))), (0, .ref a), (1, .int x1), (2, .int i2_2)], [.ref a], M)) rfl rfl rfl ?_
        refine tg_ref (S' := (27, [(3, .int ((x1 + 8) + (8 * i2_2))), (0, .ref a), (1, .int x1), (2, .int i2_2)], [.ref b], M)) rfl hS.1 hY0 (by decide) rfl rfl ?_
        refine ml_blk 3 (S' := (30, [(3, .int ((x1 + 8) + (8 * i2_2))), (0, .ref a), (1, .int x1), (2, .int i2_2)], [.int (((x1 + 8) + (8 * i2_2)) + 2), .ref b], M)) rfl ?_
        refine ml_call (a := [.ref b, .int (((x1 + 8) + (8 * i2_2)) + 2)]) (rest := []) rfl (okc_t rfl rfl rfl hS.1 hY2 (by decide)) rfl rfl (tq_u2 hS.1 hY2 (by omega)) (fun v3 M4 h5 => ?_)
        obtain ⟨⟨u6, rfl⟩, h5⟩ := h5
        rw [h5]
        show ml _ _ _ (33, [(3, .int ((x1 + 8) + (8 * i2_2))), (0, .ref a), (1, .int x1), (2, .int i2_2)], [.int u6], M) _
        refine ml_st (S' := (35, [(4, .int u6), (3, .int ((x1 + 8) + (8 * i2_2))), (0, .ref a), (1, .int x1), (2, .int i2_2)], [], M)) rfl rfl rfl ?_
        refine ml_st (S' := (36, [(4, .int u6), (3, .int ((x1 + 8) + (8 * i2_2))), (0, .ref a), (1, .int x1), (2, .int i2_2)], [.ref a], M)) rfl rfl rfl ?_
        refine tg_ref (S' := (39, [(4, .int u6), (3, .int ((x1 + 8) + (8 * i2_2))), (0, .ref a), (1, .int x1), (2, .int i2_2)], [.ref b], M)) rfl hS.1 hY0 (by decide) rfl rfl ?_
        refine ml_blk 3 (S' := (42, [(4, .int u6), (3, .int ((x1 + 8) + (8 * i2_2))), (0, .ref a), (1, .int x1), (2, .int i2_2)], [.int (((x1 + 8) + (8 * i2_2)) + 4), .ref b], M)) rfl ?_
        refine ml_call (a := [.ref b, .int (((x1 + 8) + (8 * i2_2)) + 4)]) (rest := []) rfl (okc_t rfl rfl rfl hS.1 hY2 (by decide)) rfl rfl (tq_u2 hS.1 hY2 (by omega)) (fun v7 M8 h9 => ?_)
        obtain ⟨⟨u10, rfl⟩, h9⟩ := h9
        rw [h9]
        show ml _ _ _ (45, [(4, .int u6), (3, .int ((x1 + 8) + (8 * i2_2))), (0, .ref a), (1, .int x1), (2, .int i2_2)], [.int u10], M) _
        refine ml_st (S' := (47, [(5, .int u10), (4, .int u6), (3, .int ((x1 + 8) + (8 * i2_2))), (0, .ref a), (1, .int x1), (2, .int i2_2)], [], M)) rfl rfl rfl ?_
        refine ml_st (S' := (48, [(5, .int u10), (4, .int u6), (3, .int ((x1 + 8) + (8 * i2_2))), (0, .ref a), (1, .int x1), (2, .int i2_2)], [.ref a], M)) rfl rfl rfl ?_
        refine tg_ref (S' := (51, [(5, .int u10), (4, .int u6), (3, .int ((x1 + 8) + (8 * i2_2))), (0, .ref a), (1, .int x1), (2, .int i2_2)], [.ref p], M)) rfl hS.1 hY0 (by decide) rfl rfl ?_
        refine ml_st (S' := (52, [(5, .int u10), (4, .int u6), (3, .int ((x1 + 8) + (8 * i2_2))), (0, .ref a), (1, .int x1), (2, .int i2_2)], [.ref a, .ref p], M)) rfl rfl rfl ?_
        refine tg_ref (S' := (55, [(5, .int u10), (4, .int u6), (3, .int ((x1 + 8) + (8 * i2_2))), (0, .ref a), (1, .int x1), (2, .int i2_2)], [.ref b, .ref p], M)) rfl hS.1 hY0 (by decide) rfl rfl ?_
        refine ml_st (S' := (56, [(5, .int u10), (4, .int u6), (3, .int ((x1 + 8) + (8 * i2_2))), (0, .ref a), (1, .int x1), (2, .int i2_2)], [.int ((x1 + 8) + (8 * i2_2)), .ref b, .ref p], M)) rfl rfl rfl ?_
        refine ml_call (a := [.ref b, .int ((x1 + 8) + (8 * i2_2))]) (rest := [.ref p]) rfl (okc_t rfl rfl rfl hS.1 hY2 (by decide)) rfl rfl (tq_u2 hS.1 hY2 (by omega)) (fun v11 M12 h13 => ?_)
        obtain ⟨⟨u14, rfl⟩, h13⟩ := h13
        rw [h13]
        show ml _ _ _ (59, [(5, .int u10), (4, .int u6), (3, .int ((x1 + 8) + (8 * i2_2))), (0, .ref a), (1, .int x1), (2, .int i2_2)], [.int u14, .ref p], M) _
        refine ml_call (a := [.ref p, .int u14]) (rest := []) rfl (okc_t rfl rfl rfl hS.1 hY3 (by decide)) rfl rfl (tq_tagOf hS.1 hY3 (by omega)) (fun v15 M16 h17 => ?_)
        obtain ⟨⟨u18, rfl⟩, h17⟩ := h17
        rw [h17]
        show ml _ _ _ (62, [(5, .int u10), (4, .int u6), (3, .int ((x1 + 8) + (8 * i2_2))), (0, .ref a), (1, .int x1), (2, .int i2_2)], [.int u18], M) _
        refine ml_st (S' := (64, [(5, .int u10), (4, .int u6), (3, .int ((x1 + 8) + (8 * i2_2))), (0, .ref a), (1, .int x1), (2, .int i2_2)], [.int 7, .int u18], M)) rfl rfl rfl ?_
        refine ml_if2 (S1 := (104, [], [], M)) (S2 := (67, [(5, .int u10), (4, .int u6), (3, .int ((x1 + 8) + (8 * i2_2))), (0, .ref a), (1, .int x1), (2, .int i2_2)], [], M)) rfl rfl rfl (fun c_64 => ?_) (fun c_64 => ?_)
        · have c_64 : ¬ u18 = 7 := of_decide_eq_true c_64
          refine ml_st (S' := (105, [], [.int 0], M)) rfl rfl rfl ?_
          exact ml_ret rfl (r_z (Or.inl rfl)) (⟨⟨_, rfl, Or.inl rfl⟩, rfl⟩)
        · have c_64 : ¬ (¬ u18 = 7) := of_decide_eq_false c_64
          refine ml_st (S' := (69, [(5, .int u10), (4, .int u6), (3, .int ((x1 + 8) + (8 * i2_2))), (0, .ref a), (1, .int x1), (2, .int i2_2)], [.int u6], M)) rfl rfl rfl ?_
          refine ml_if (S1 := (86, [(0, .ref a), (1, .int x1), (2, .int i2_2), (5, .int u10)], [], M)) (S2 := (72, [(5, .int u10), (4, .int u6), (3, .int ((x1 + 8) + (8 * i2_2))), (0, .ref a), (1, .int x1), (2, .int i2_2)], [], M)) rfl rfl rfl (fun c_69 => ?_) (fun c_69 => ?_)
          · have c_69 : u6 = 0 := of_decide_eq_true c_69
            refine ml_st (S' := (88, [(0, .ref a), (1, .int x1), (2, .int i2_2), (5, .int u10)], [.int u10], M)) rfl rfl rfl ?_
            refine ml_if (S1 := (106, [(0, .ref a), (1, .int x1), (2, .int i2_2)], [], M)) (S2 := (91, [(0, .ref a), (1, .int x1), (2, .int i2_2), (5, .int u10)], [], M)) rfl rfl rfl (fun c_88 => ?_) (fun c_88 => ?_)
            · have c_88 : u10 = 0 := of_decide_eq_true c_88
              refine ml_st (S' := (109, [(2, .int (i2_2 + 1)), (0, .ref a), (1, .int x1)], [], M)) rfl rfl rfl ?_
              refine ml_st (S' := (2, [(0, .ref a), (1, .int x1), (2, .int (i2_2 + 1))], [], M)) rfl rfl rfl ?_
              exact ih_2 (i2_2 + 1) (loop_inc (Int32.not_le.mp c_10) hn_2) 
            · have c_88 : ¬ (u10 = 0) := of_decide_eq_false c_88
              refine ml_st (S' := (92, [(0, .ref a), (1, .int x1), (2, .int i2_2), (5, .int u10)], [.ref a], M)) rfl rfl rfl ?_
              refine tg_ref (S' := (95, [(0, .ref a), (1, .int x1), (2, .int i2_2), (5, .int u10)], [.ref p], M)) rfl hS.1 hY0 (by decide) rfl rfl ?_
              refine ml_st (S' := (97, [(0, .ref a), (1, .int x1), (2, .int i2_2), (5, .int u10)], [.int u10, .ref p], M)) rfl rfl rfl ?_
              refine ml_call (a := [.ref p, .int u10]) (rest := []) rfl (okc_t rfl rfl rfl hS.1 hY3 (by decide)) rfl rfl (tq_tagOf hS.1 hY3 (by omega)) (fun v19 M20 h21 => ?_)
              obtain ⟨⟨u22, rfl⟩, h21⟩ := h21
              rw [h21]
              show ml _ _ _ (100, [(0, .ref a), (1, .int x1), (2, .int i2_2), (5, .int u10)], [.int u22], M) _
              refine ml_st (S' := (101, [(0, .ref a), (1, .int x1), (2, .int i2_2), (5, .int u10)], [.int 1, .int u22], M)) rfl rfl rfl ?_
              refine ml_if2 (S1 := (106, [(0, .ref a), (1, .int x1), (2, .int i2_2)], [], M)) (S2 := (104, [], [], M)) rfl rfl rfl (fun c_101 => ?_) (fun c_101 => ?_)
              · have c_101 : u22 = 1 := of_decide_eq_true c_101
                refine ml_st (S' := (109, [(2, .int (i2_2 + 1)), (0, .ref a), (1, .int x1)], [], M)) rfl rfl rfl ?_
                refine ml_st (S' := (2, [(0, .ref a), (1, .int x1), (2, .int (i2_2 + 1))], [], M)) rfl rfl rfl ?_
                exact ih_2 (i2_2 + 1) (loop_inc (Int32.not_le.mp c_10) hn_2) 
              · have c_101 : ¬ (u22 = 1) := of_decide_eq_false c_101
                refine ml_st (S' := (105, [], [.int 0], M)) rfl rfl rfl ?_
                exact ml_ret rfl (r_z (Or.inl rfl)) (⟨⟨_, rfl, Or.inl rfl⟩, rfl⟩)
          · have c_69 : ¬ (u6 = 0) := of_decide_eq_false c_69
            refine ml_st (S' := (73, [(5, .int u10), (4, .int u6), (3, .int ((x1 + 8) + (8 * i2_2))), (0, .ref a), (1, .int x1), (2, .int i2_2)], [.ref a], M)) rfl rfl rfl ?_
            refine tg_ref (S' := (76, [(5, .int u10), (4, .int u6), (3, .int ((x1 + 8) + (8 * i2_2))), (0, .ref a), (1, .int x1), (2, .int i2_2)], [.ref p], M)) rfl hS.1 hY0 (by decide) rfl rfl ?_
            refine ml_st (S' := (78, [(5, .int u10), (4, .int u6), (3, .int ((x1 + 8) + (8 * i2_2))), (0, .ref a), (1, .int x1), (2, .int i2_2)], [.int u6, .ref p], M)) rfl rfl rfl ?_
            refine ml_call (a := [.ref p, .int u6]) (rest := []) rfl (okc_t rfl rfl rfl hS.1 hY3 (by decide)) rfl rfl (tq_tagOf hS.1 hY3 (by omega)) (fun v23 M24 h25 => ?_)
            obtain ⟨⟨u26, rfl⟩, h25⟩ := h25
            rw [h25]
            show ml _ _ _ (81, [(5, .int u10), (4, .int u6), (3, .int ((x1 + 8) + (8 * i2_2))), (0, .ref a), (1, .int x1), (2, .int i2_2)], [.int u26], M) _
            refine ml_st (S' := (83, [(5, .int u10), (4, .int u6), (3, .int ((x1 + 8) + (8 * i2_2))), (0, .ref a), (1, .int x1), (2, .int i2_2)], [.int 7, .int u26], M)) rfl rfl rfl ?_
            refine ml_if2 (S1 := (104, [], [], M)) (S2 := (86, [(0, .ref a), (1, .int x1), (2, .int i2_2), (5, .int u10)], [], M)) rfl rfl rfl (fun c_83 => ?_) (fun c_83 => ?_)
            · have c_83 : ¬ u26 = 7 := of_decide_eq_true c_83
              refine ml_st (S' := (105, [], [.int 0], M)) rfl rfl rfl ?_
              exact ml_ret rfl (r_z (Or.inl rfl)) (⟨⟨_, rfl, Or.inl rfl⟩, rfl⟩)
            · have c_83 : ¬ (¬ u26 = 7) := of_decide_eq_false c_83
              refine ml_st (S' := (88, [(0, .ref a), (1, .int x1), (2, .int i2_2), (5, .int u10)], [.int u10], M)) rfl rfl rfl ?_
              refine ml_if (S1 := (106, [(0, .ref a), (1, .int x1), (2, .int i2_2)], [], M)) (S2 := (91, [(0, .ref a), (1, .int x1), (2, .int i2_2), (5, .int u10)], [], M)) rfl rfl rfl (fun c_88 => ?_) (fun c_88 => ?_)
              · have c_88 : u10 = 0 := of_decide_eq_true c_88
                refine ml_st (S' := (109, [(2, .int (i2_2 + 1)), (0, .ref a), (1, .int x1)], [], M)) rfl rfl rfl ?_
                refine ml_st (S' := (2, [(0, .ref a), (1, .int x1), (2, .int (i2_2 + 1))], [], M)) rfl rfl rfl ?_
                exact ih_2 (i2_2 + 1) (loop_inc (Int32.not_le.mp c_10) hn_2) 
              · have c_88 : ¬ (u10 = 0) := of_decide_eq_false c_88
                refine ml_st (S' := (92, [(0, .ref a), (1, .int x1), (2, .int i2_2), (5, .int u10)], [.ref a], M)) rfl rfl rfl ?_
                refine tg_ref (S' := (95, [(0, .ref a), (1, .int x1), (2, .int i2_2), (5, .int u10)], [.ref p], M)) rfl hS.1 hY0 (by decide) rfl rfl ?_
                refine ml_st (S' := (97, [(0, .ref a), (1, .int x1), (2, .int i2_2), (5, .int u10)], [.int u10, .ref p], M)) rfl rfl rfl ?_
                refine ml_call (a := [.ref p, .int u10]) (rest := []) rfl (okc_t rfl rfl rfl hS.1 hY3 (by decide)) rfl rfl (tq_tagOf hS.1 hY3 (by omega)) (fun v27 M28 h29 => ?_)
                obtain ⟨⟨u30, rfl⟩, h29⟩ := h29
                rw [h29]
                show ml _ _ _ (100, [(0, .ref a), (1, .int x1), (2, .int i2_2), (5, .int u10)], [.int u30], M) _
                refine ml_st (S' := (101, [(0, .ref a), (1, .int x1), (2, .int i2_2), (5, .int u10)], [.int 1, .int u30], M)) rfl rfl rfl ?_
                refine ml_if2 (S1 := (106, [(0, .ref a), (1, .int x1), (2, .int i2_2)], [], M)) (S2 := (104, [], [], M)) rfl rfl rfl (fun c_101 => ?_) (fun c_101 => ?_)
                · have c_101 : u30 = 1 := of_decide_eq_true c_101
                  refine ml_st (S' := (109, [(2, .int (i2_2 + 1)), (0, .ref a), (1, .int x1)], [], M)) rfl rfl rfl ?_
                  refine ml_st (S' := (2, [(0, .ref a), (1, .int x1), (2, .int (i2_2 + 1))], [], M)) rfl rfl rfl ?_
                  exact ih_2 (i2_2 + 1) (loop_inc (Int32.not_le.mp c_10) hn_2) 
                · have c_101 : ¬ (u30 = 1) := of_decide_eq_false c_101
                  refine ml_st (S' := (105, [], [.int 0], M)) rfl rfl rfl ?_
                  exact ml_ret rfl (r_z (Or.inl rfl)) (⟨⟨_, rfl, Or.inl rfl⟩, rfl⟩)
  exact L_2 _ 0 (Nat.le_refl _) 
set_option maxHeartbeats 2000000 in
theorem tw_At_isLoadable {g : xe_G} {M : mi_H} {Y : yT} {x1 : Int32}  (hW : WF g Y M) {d : Nat} (hd : 1 ≤ d) : mt (mT g) d 35 [.int x1] M (pZ M) := by
  obtain ⟨d, rfl⟩ : ∃ e, d = e + 1 := ⟨d - 1, by omega⟩
  have hS : st g Y M M := st.rf hW
  refine mt_in (b := mb_35 g) rfl rfl ?_
  show ml (mT g) d (mb_35 g).2 (0, [(0, .int x1)], [], M) _
  refine ml_blk 2 (S' := (2, [(0, .int x1)], [.int 3, .int x1], M)) rfl ?_
  refine ml_if2 (S1 := (11, [(0, .int x1)], [], M)) (S2 := (5, [(0, .int x1)], [], M)) rfl rfl rfl (fun c_2 => ?_) (fun c_2 => ?_)
  · have c_2 : x1 < 3 := of_decide_eq_true c_2
    refine ml_blk 2 (S' := (14, [(0, .int x1)], [.int 15, .int x1], M)) rfl ?_
    refine ml_if2 (S1 := (27, [], [], M)) (S2 := (17, [(0, .int x1)], [], M)) rfl rfl rfl (fun c_14 => ?_) (fun c_14 => ?_)
    · have c_14 : x1 < 15 := of_decide_eq_true c_14
      refine ml_st (S' := (28, [], [.int 0], M)) rfl rfl rfl ?_
      exact ml_ret rfl (r_z (Or.inl rfl)) (⟨⟨_, rfl, Or.inl rfl⟩, rfl⟩)
    · have c_14 : ¬ (x1 < 15) := of_decide_eq_false c_14
      refine ml_blk 2 (S' := (20, [(0, .int x1)], [.int 17, .int x1], M)) rfl ?_
      refine ml_if2 (S1 := (27, [], [], M)) (S2 := (23, [], [], M)) rfl rfl rfl (fun c_20 => ?_) (fun c_20 => ?_)
      · have c_20 : 17 < x1 := of_decide_eq_true c_20
        refine ml_st (S' := (28, [], [.int 0], M)) rfl rfl rfl ?_
        exact ml_ret rfl (r_z (Or.inl rfl)) (⟨⟨_, rfl, Or.inl rfl⟩, rfl⟩)
      · have c_20 : ¬ (17 < x1) := of_decide_eq_false c_20
        refine ml_st (S' := (24, [], [.int 1], M)) rfl rfl rfl ?_
        refine ml_st (S' := (28, [], [.int 1], M)) rfl rfl rfl ?_
        exact ml_ret rfl (r_z (Or.inr rfl)) (⟨⟨_, rfl, Or.inr rfl⟩, rfl⟩)
  · have c_2 : ¬ (x1 < 3) := of_decide_eq_false c_2
    refine ml_blk 2 (S' := (8, [(0, .int x1)], [.int 8, .int x1], M)) rfl ?_
    refine ml_if2 (S1 := (23, [], [], M)) (S2 := (11, [(0, .int x1)], [], M)) rfl rfl rfl (fun c_8 => ?_) (fun c_8 => ?_)
    · have c_8 : x1 ≤ 8 := of_decide_eq_true c_8
      refine ml_st (S' := (24, [], [.int 1], M)) rfl rfl rfl ?_
      refine ml_st (S' := (28, [], [.int 1], M)) rfl rfl rfl ?_
      exact ml_ret rfl (r_z (Or.inr rfl)) (⟨⟨_, rfl, Or.inr rfl⟩, rfl⟩)
    · have c_8 : ¬ (x1 ≤ 8) := of_decide_eq_false c_8
      refine ml_blk 2 (S' := (14, [(0, .int x1)], [.int 15, .int x1], M)) rfl ?_
      refine ml_if2 (S1 := (27, [], [], M)) (S2 := (17, [(0, .int x1)], [], M)) rfl rfl rfl (fun c_14 => ?_) (fun c_14 => ?_)
      · have c_14 : x1 < 15 := of_decide_eq_true c_14
        refine ml_st (S' := (28, [], [.int 0], M)) rfl rfl rfl ?_
        exact ml_ret rfl (r_z (Or.inl rfl)) (⟨⟨_, rfl, Or.inl rfl⟩, rfl⟩)
      · have c_14 : ¬ (x1 < 15) := of_decide_eq_false c_14
        refine ml_blk 2 (S' := (20, [(0, .int x1)], [.int 17, .int x1], M)) rfl ?_
        refine ml_if2 (S1 := (27, [], [], M)) (S2 := (23, [], [], M)) rfl rfl rfl (fun c_20 => ?_) (fun c_20 => ?_)
        · have c_20 : 17 < x1 := of_decide_eq_true c_20
          refine ml_st (S' := (28, [], [.int 0], M)) rfl rfl rfl ?_
          exact ml_ret rfl (r_z (Or.inl rfl)) (⟨⟨_, rfl, Or.inl rfl⟩, rfl⟩)
        · have c_20 : ¬ (17 < x1) := of_decide_eq_false c_20
          refine ml_st (S' := (24, [], [.int 1], M)) rfl rfl rfl ?_
          refine ml_st (S' := (28, [], [.int 1], M)) rfl rfl rfl ?_
          exact ml_ret rfl (r_z (Or.inr rfl)) (⟨⟨_, rfl, Or.inr rfl⟩, rfl⟩)
set_option maxHeartbeats 2000000 in
theorem tw_At_bootstrapsHold {g : xe_G} {M : mi_H} {Y : yT} {a c b p vd da n : Nat} {pp : List Nat}  (hW : WF g Y M) (hY0 : Y.1 a = some (0, [c, b, p, vd])) (hY1 : Y.1 c = some (3, [b, da, n])) (hY2 : Y.1 b = some (1, [da, n])) (hY3 : Y.1 p = some (7, pp)) (hY4 : Y.1 vd = some (10, [])) {d : Nat} (hd : 2 ≤ d) : mt (mT g) d 25 [.ref a] M (pZ M) := by
  obtain ⟨d, rfl⟩ : ∃ e, d = e + 1 := ⟨d - 1, by omega⟩
  have hS : st g Y M M := st.rf hW
  refine mt_in (b := mb_25 g) rfl rfl ?_
  show ml (mT g) d (mb_25 g).2 (0, [(0, .ref a)], [], M) _
  refine ml_st (S' := (1, [(0, .ref a)], [.ref a], M)) rfl rfl rfl ?_
  refine tg_ref (S' := (4, [(0, .ref a)], [.ref c], M)) rfl hS.1 hY0 (by decide) rfl rfl ?_
  refine tg_int rfl hS.1 hY1 (by decide) rfl (fun u1 g2 => ?_)
  show ml _ _ _ (7, [(0, .ref a)], [.int u1], M) _
  refine ml_st (S' := (8, [(1, .int u1), (0, .ref a)], [], M)) rfl rfl rfl ?_
  refine ml_st (S' := (9, [(1, .int u1), (0, .ref a)], [.int 0], M)) rfl rfl rfl ?_
  refine ml_st (S' := (10, [(0, .ref a), (1, .int u1), (2, .int 0)], [], M)) rfl rfl rfl ?_
  have L_10 : ∀ (n_10 : Nat) (i10_1 : Int32) (i10_2 : Int32), (2147483648 - i10_2.toInt).toNat ≤ n_10 → ml (mT g) d (mb_25 g).2 (10, [(0, .ref a), (1, .int i10_1), (2, .int i10_2)], [], M) (pZ M) := by
    intro n_10
    induction n_10 with
    | zero => intro i10_1 i10_2 hn; exact (loop_zero hn).elim
    | succ n_10 ih_10 =>
      intro i10_1 i10_2 hn_10
      refine ml_blk 2 (S' := (12, [(0, .ref a), (1, .int i10_1), (2, .int i10_2)], [.ref a, .int i10_2], M)) rfl ?_
      refine tg_ref (S' := (15, [(0, .ref a), (1, .int i10_1), (2, .int i10_2)], [.ref c, .int i10_2], M)) rfl hS.1 hY0 (by decide) rfl rfl ?_
      refine tg_int rfl hS.1 hY1 (by decide) rfl (fun u3 g4 => ?_)
      show ml _ _ _ (18, [(0, .ref a), (1, .int i10_1), (2, .int i10_2)], [.int u3, .int i10_2], M) _
      refine ml_if2 (S1 := (104, [(0, .ref a), (1, .int i10_1), (2, .int i10_2)], [], M)) (S2 := (21, [(0, .ref a), (1, .int i10_1), (2, .int i10_2)], [], M)) rfl rfl rfl (fun c_18 => ?_) (fun c_18 => ?_)
      · have c_18 : u3 ≤ i10_2 := of_decide_eq_true c_18
        refine ml_st (S' := (105, [(0, .ref a), (1, .int i10_1), (2, .int i10_2)], [.int 1], M)) rfl rfl rfl ?_
        exact ml_ret rfl (r_z (Or.inr rfl)) (⟨⟨_, rfl, Or.inr rfl⟩, rfl⟩)
      · have c_18 : ¬ (u3 ≤ i10_2) := of_decide_eq_false c_18
        refine ml_st (S' := (22, [(0, .ref a), (1, .int i10_1), (2, .int i10_2)], [.ref a], M)) rfl rfl rfl ?_
        refine tg_ref (S' := (25, [(0, .ref a), (1, .int i10_1), (2, .int i10_2)], [.ref p], M)) rfl hS.1 hY0 (by decide) rfl rfl ?_
        refine ml_st (S' := (26, [(0, .ref a), (1, .int i10_1), (2, .int i10_2)], [.ref a, .ref p], M)) rfl rfl rfl ?_
        refine tg_ref (S' := (29, [(0, .ref a), (1, .int i10_1), (2, .int i10_2)], [.ref b, .ref p], M)) rfl hS.1 hY0 (by decide) rfl rfl ?_
        refine ml_st (S' := (30, [(0, .ref a), (1, .int i10_1), (2, .int i10_2)], [.int i10_1, .ref b, .ref p], M)) rfl rfl rfl ?_
        refine ml_call (a := [.ref b, .int i10_1]) (rest := [.ref p]) rfl (okc_t rfl rfl rfl hS.1 hY2 (by decide)) rfl rfl (tq_u2 hS.1 hY2 (by omega)) (fun v5 M6 h7 => ?_)
        obtain ⟨⟨u8, rfl⟩, h7⟩ := h7
        rw [h7]
        show ml _ _ _ (33, [(0, .ref a), (1, .int i10_1), (2, .int i10_2)], [.int u8, .ref p], M) _
        refine ml_call (a := [.ref p, .int u8]) (rest := []) rfl (okc_t rfl rfl rfl hS.1 hY3 (by decide)) rfl rfl (tq_tagOf hS.1 hY3 (by omega)) (fun v9 M10 h11 => ?_)
        obtain ⟨⟨u12, rfl⟩, h11⟩ := h11
        rw [h11]
        show ml _ _ _ (36, [(0, .ref a), (1, .int i10_1), (2, .int i10_2)], [.int u12], M) _
        refine ml_st (S' := (38, [(0, .ref a), (1, .int i10_1), (2, .int i10_2)], [.int 15, .int u12], M)) rfl rfl rfl ?_
        refine ml_if2 (S1 := (43, [(0, .ref a), (1, .int i10_1), (2, .int i10_2)], [], M)) (S2 := (41, [(0, .ref a), (1, .int i10_1), (2, .int i10_2)], [], M)) rfl rfl rfl (fun c_38 => ?_) (fun c_38 => ?_)
        · have c_38 : u12 = 15 := of_decide_eq_true c_38
          refine ml_st (S' := (44, [(0, .ref a), (1, .int i10_1), (2, .int i10_2)], [.ref a], M)) rfl rfl rfl ?_
          refine tg_ref (S' := (47, [(0, .ref a), (1, .int i10_1), (2, .int i10_2)], [.ref b], M)) rfl hS.1 hY0 (by decide) rfl rfl ?_
          refine ml_blk 3 (S' := (50, [(0, .ref a), (1, .int i10_1), (2, .int i10_2)], [.int (i10_1 + 2), .ref b], M)) rfl ?_
          refine ml_call (a := [.ref b, .int (i10_1 + 2)]) (rest := []) rfl (okc_t rfl rfl rfl hS.1 hY2 (by decide)) rfl rfl (tq_u2 hS.1 hY2 (by omega)) (fun v13 M14 h15 => ?_)
          obtain ⟨⟨u16, rfl⟩, h15⟩ := h15
          rw [h15]
          show ml _ _ _ (53, [(0, .ref a), (1, .int i10_1), (2, .int i10_2)], [.int u16], M) _
          refine ml_st (S' := (54, [(3, .int u16), (0, .ref a), (1, .int i10_1), (2, .int i10_2)], [], M)) rfl rfl rfl ?_
          refine ml_st (S' := (57, [(1, .int (i10_1 + 4)), (3, .int u16), (0, .ref a), (2, .int i10_2)], [], M)) rfl rfl rfl ?_
          refine ml_st (S' := (58, [(1, .int (i10_1 + 4)), (3, .int u16), (0, .ref a), (2, .int i10_2)], [.int 0], M)) rfl rfl rfl ?_
          refine ml_st (S' := (60, [(0, .ref a), (1, .int (i10_1 + 4)), (2, .int i10_2), (3, .int u16), (4, .int 0)], [], M)) rfl rfl rfl ?_
          have L_60 : ∀ (n_60 : Nat) (i60_1 : Int32) (i60_4 : Int32), (2147483648 - i60_4.toInt).toNat ≤ n_60 → ml (mT g) d (mb_25 g).2 (60, [(0, .ref a), (1, .int i60_1), (2, .int i10_2), (3, .int u16), (4, .int i60_4)], [], M) (pZ M) := by
            intro n_60
            induction n_60 with
            | zero => intro i60_1 i60_4 hn; exact (loop_zero hn).elim
            | succ n_60 ih_60 =>
              intro i60_1 i60_4 hn_60
              refine ml_blk 2 (S' := (63, [(0, .ref a), (1, .int i60_1), (2, .int i10_2), (3, .int u16), (4, .int i60_4)], [.int u16, .int i60_4], M)) rfl ?_
              refine ml_if2 (S1 := (98, [(0, .ref a), (1, .int i60_1), (2, .int i10_2), (3, .int u16), (4, .int i60_4)], [], M)) (S2 := (66, [(0, .ref a), (1, .int i60_1), (2, .int i10_2), (3, .int u16), (4, .int i60_4)], [], M)) rfl rfl rfl (fun c_63 => ?_) (fun c_63 => ?_)
              · have c_63 : u16 ≤ i60_4 := of_decide_eq_true c_63
                refine ml_st (S' := (101, [(2, .int (i10_2 + 1)), (0, .ref a), (1, .int i60_1), (3, .int u16), (4, .int i60_4)], [], M)) rfl rfl rfl ?_
                refine ml_st (S' := (10, [(0, .ref a), (1, .int i60_1), (2, .int (i10_2 + 1))], [], M)) rfl rfl rfl ?_
                exact ih_10 i60_1 (i10_2 + 1) (loop_inc (Int32.not_le.mp c_18) hn_10) 
              · have c_63 : ¬ (u16 ≤ i60_4) := of_decide_eq_false c_63
                refine ml_st (S' := (67, [(0, .ref a), (1, .int i60_1), (2, .int i10_2), (3, .int u16), (4, .int i60_4)], [.ref a], M)) rfl rfl rfl ?_
                refine tg_ref (S' := (70, [(0, .ref a), (1, .int i60_1), (2, .int i10_2), (3, .int u16), (4, .int i60_4)], [.ref p], M)) rfl hS.1 hY0 (by decide) rfl rfl ?_
                refine ml_st (S' := (71, [(0, .ref a), (1, .int i60_1), (2, .int i10_2), (3, .int u16), (4, .int i60_4)], [.ref a, .ref p], M)) rfl rfl rfl ?_
                refine tg_ref (S' := (74, [(0, .ref a), (1, .int i60_1), (2, .int i10_2), (3, .int u16), (4, .int i60_4)], [.ref b, .ref p], M)) rfl hS.1 hY0 (by decide) rfl rfl ?_
                refine ml_st (S' := (75, [(0, .ref a), (1, .int i60_1), (2, .int i10_2), (3, .int u16), (4, .int i60_4)], [.int i60_1, .ref b, .ref p], M)) rfl rfl rfl ?_
                refine ml_call (a := [.ref b, .int i60_1]) (rest := [.ref p]) rfl (okc_t rfl rfl rfl hS.1 hY2 (by decide)) rfl rfl (tq_u2 hS.1 hY2 (by omega)) (fun v17 M18 h19 => ?_)
                obtain ⟨⟨u20, rfl⟩, h19⟩ := h19
                rw [h19]
                show ml _ _ _ (78, [(0, .ref a), (1, .int i60_1), (2, .int i10_2), (3, .int u16), (4, .int i60_4)], [.int u20, .ref p], M) _
                refine ml_call (a := [.ref p, .int u20]) (rest := []) rfl (okc_t rfl rfl rfl hS.1 hY3 (by decide)) rfl rfl (tq_tagOf hS.1 hY3 (by omega)) (fun v21 M22 h23 => ?_)
                obtain ⟨⟨u24, rfl⟩, h23⟩ := h23
                rw [h23]
                show ml _ _ _ (81, [(0, .ref a), (1, .int i60_1), (2, .int i10_2), (3, .int u16), (4, .int i60_4)], [.int u24], M) _
                refine ml_call (a := [.int u24]) (rest := []) rfl (rfl) rfl rfl (tw_At_isLoadable hS.1  (by omega)) (fun v25 M26 h27 => ?_)
                obtain ⟨⟨u28, rfl, z29⟩, h27⟩ := h27
                rw [h27]
                show ml _ _ _ (84, [(0, .ref a), (1, .int i60_1), (2, .int i10_2), (3, .int u16), (4, .int i60_4)], [.int u28], M) _
                refine ml_if (S1 := (89, [(0, .ref a), (1, .int i60_1), (2, .int i10_2), (3, .int u16), (4, .int i60_4)], [], M)) (S2 := (87, [(0, .ref a), (1, .int i60_1), (2, .int i10_2), (3, .int u16), (4, .int i60_4)], [], M)) rfl rfl rfl (fun c_84 => ?_) (fun c_84 => ?_)
                · have c_84 : ¬ u28 = 0 := of_decide_eq_true c_84
                  refine ml_st (S' := (92, [(1, .int (i60_1 + 2)), (0, .ref a), (2, .int i10_2), (3, .int u16), (4, .int i60_4)], [], M)) rfl rfl rfl ?_
                  refine ml_st (S' := (95, [(4, .int (i60_4 + 1)), (1, .int (i60_1 + 2)), (0, .ref a), (2, .int i10_2), (3, .int u16)], [], M)) rfl rfl rfl ?_
                  refine ml_st (S' := (60, [(0, .ref a), (1, .int (i60_1 + 2)), (2, .int i10_2), (3, .int u16), (4, .int (i60_4 + 1))], [], M)) rfl rfl rfl ?_
                  exact ih_60 (i60_1 + 2) (i60_4 + 1) (loop_inc (Int32.not_le.mp c_63) hn_60) 
                · have c_84 : ¬ (¬ u28 = 0) := of_decide_eq_false c_84
                  refine ml_st (S' := (88, [(0, .ref a), (1, .int i60_1), (2, .int i10_2), (3, .int u16), (4, .int i60_4)], [.int 0], M)) rfl rfl rfl ?_
                  exact ml_ret rfl (r_z (Or.inl rfl)) (⟨⟨_, rfl, Or.inl rfl⟩, rfl⟩)
          exact L_60 _ (i10_1 + 4) 0 (Nat.le_refl _) 
        · have c_38 : ¬ (u12 = 15) := of_decide_eq_false c_38
          refine ml_st (S' := (42, [(0, .ref a), (1, .int i10_1), (2, .int i10_2)], [.int 0], M)) rfl rfl rfl ?_
          exact ml_ret rfl (r_z (Or.inl rfl)) (⟨⟨_, rfl, Or.inl rfl⟩, rfl⟩)
  exact L_10 _ u1 0 (Nat.le_refl _) 
set_option maxHeartbeats 2000000 in
theorem tw_At_isNew {g : xe_G} {M : mi_H} {Y : yT} {a c b p vd da n : Nat} {pp : List Nat} {x1 x2 : Int32}  (hW : WF g Y M) (hY0 : Y.1 a = some (0, [c, b, p, vd])) (hY1 : Y.1 c = some (3, [b, da, n])) (hY2 : Y.1 b = some (1, [da, n])) (hY3 : Y.1 p = some (7, pp)) (hY4 : Y.1 vd = some (10, [])) {d : Nat} (hd : 2 ≤ d) : mt (mT g) d 36 [.ref a, .int x1, .int x2] M (qZ g Y M) := by
  obtain ⟨d, rfl⟩ : ∃ e, d = e + 1 := ⟨d - 1, by omega⟩
  have hS : st g Y M M := st.rf hW
  refine mt_in (b := mb_36 g) rfl rfl ?_
  show ml (mT g) d (mb_36 g).2 (0, [(0, .ref a), (1, .int x1), (2, .int x2)], [], M) _
  refine ml_st (S' := (1, [(0, .ref a), (1, .int x1), (2, .int x2)], [.ref a], M)) rfl rfl rfl ?_
  refine tg_ref (S' := (4, [(0, .ref a), (1, .int x1), (2, .int x2)], [.ref p], M)) rfl hS.1 hY0 (by decide) rfl rfl ?_
  refine ml_st (S' := (5, [(0, .ref a), (1, .int x1), (2, .int x2)], [.ref a, .ref p], M)) rfl rfl rfl ?_
  refine tg_ref (S' := (8, [(0, .ref a), (1, .int x1), (2, .int x2)], [.ref b, .ref p], M)) rfl hS.1 hY0 (by decide) rfl rfl ?_
  refine ml_st (S' := (9, [(0, .ref a), (1, .int x1), (2, .int x2)], [.int x1, .ref b, .ref p], M)) rfl rfl rfl ?_
  refine ml_call (a := [.ref b, .int x1]) (rest := [.ref p]) rfl (okc_t rfl rfl rfl hS.1 hY2 (by decide)) rfl rfl (tq_u2 hS.1 hY2 (by omega)) (fun v1 M2 h3 => ?_)
  obtain ⟨⟨u4, rfl⟩, h3⟩ := h3
  rw [h3]
  show ml _ _ _ (12, [(0, .ref a), (1, .int x1), (2, .int x2)], [.int u4, .ref p], M) _
  refine ml_call (a := [.ref p, .int u4]) (rest := []) rfl (okc_t rfl rfl rfl hS.1 hY3 (by decide)) rfl rfl (tq_tagOf hS.1 hY3 (by omega)) (fun v5 M6 h7 => ?_)
  obtain ⟨⟨u8, rfl⟩, h7⟩ := h7
  rw [h7]
  show ml _ _ _ (15, [(0, .ref a), (1, .int x1), (2, .int x2)], [.int u8], M) _
  refine ml_st (S' := (16, [(0, .ref a), (1, .int x1), (2, .int x2)], [.int 1, .int u8], M)) rfl rfl rfl ?_
  refine ml_if2 (S1 := (30, [(0, .ref a), (1, .int x1), (2, .int x2)], [], M)) (S2 := (19, [(0, .ref a), (1, .int x1), (2, .int x2)], [], M)) rfl rfl rfl (fun c_16 => ?_) (fun c_16 => ?_)
  · have c_16 : u8 = 1 := of_decide_eq_true c_16
    refine ml_st (S' := (31, [(0, .ref a), (1, .int x1), (2, .int x2)], [.int x2], M)) rfl rfl rfl ?_
    refine ml_if (S1 := (36, [(0, .ref a), (1, .int x1), (2, .int x2)], [], M)) (S2 := (34, [(0, .ref a), (1, .int x1), (2, .int x2)], [], M)) rfl rfl rfl (fun c_31 => ?_) (fun c_31 => ?_)
    · have c_31 : ¬ x2 = 0 := of_decide_eq_true c_31
      refine ml_blk 2 (S' := (38, [(0, .ref a), (1, .int x1), (2, .int x2)], [.int x2, .ref a], M)) rfl ?_
      refine ml_call (a := [.ref a, .int x2]) (rest := []) rfl (okc_t rfl rfl rfl hS.1 hY0 (by decide)) rfl rfl (tw_At_hasSeen hS.1 hY0 hY1 hY2 hY3 hY4 (by omega)) (fun v9 M10 h11 => ?_)
      obtain ⟨⟨u12, rfl, z13⟩, h11⟩ := h11
      rw [h11]
      show ml _ _ _ (41, [(0, .ref a), (1, .int x1), (2, .int x2)], [.int u12], M) _
      refine ml_if (S1 := (55, [(0, .ref a), (1, .int x1), (2, .int x2)], [], M)) (S2 := (44, [(0, .ref a), (1, .int x1), (2, .int x2)], [], M)) rfl rfl rfl (fun c_41 => ?_) (fun c_41 => ?_)
      · have c_41 : u12 = 0 := of_decide_eq_true c_41
        refine ml_blk 2 (S' := (57, [(0, .ref a), (1, .int x1), (2, .int x2)], [.ref a, .ref a], M)) rfl ?_
        refine tg_int rfl hS.1 hY0 (by decide) rfl (fun u14 g15 => ?_)
        show ml _ _ _ (60, [(0, .ref a), (1, .int x1), (2, .int x2)], [.int u14, .ref a], M) _
        refine ml_blk 3 (S' := (63, [(0, .ref a), (1, .int x1), (2, .int x2)], [.int (1 <<< (x2 &&& 31)), .int u14, .ref a], M)) rfl ?_
        refine ml_st (S' := (64, [(0, .ref a), (1, .int x1), (2, .int x2)], [.int (u14 ||| (1 <<< (x2 &&& 31))), .ref a], M)) rfl rfl rfl ?_
        refine tp_put rfl hS hY0 (by decide) rfl (⟨_, rfl⟩) rfl rfl (fun M16 hS17 f18 => ?_)
        show ml _ _ _ (67, [(0, .ref a), (1, .int x1), (2, .int x2)], [], M16) _
        refine ml_st (S' := (68, [(0, .ref a), (1, .int x1), (2, .int x2)], [.int 1], M16)) rfl rfl rfl ?_
        exact ml_ret rfl (r_z (Or.inr rfl)) (⟨⟨_, rfl, Or.inr rfl⟩, hS17⟩)
      · have c_41 : ¬ (u12 = 0) := of_decide_eq_false c_41
        refine ml_st (S' := (45, [(0, .ref a), (1, .int x1), (2, .int x2)], [.ref a], M)) rfl rfl rfl ?_
        refine tg_ref (S' := (48, [(0, .ref a), (1, .int x1), (2, .int x2)], [.ref vd], M)) rfl hS.1 hY0 (by decide) rfl rfl ?_
        refine ml_blk 2 (S' := (51, [(0, .ref a), (1, .int x1), (2, .int x2)], [.int x1, .int 29, .ref vd], M)) rfl ?_
        refine ml_call (a := [.ref vd, .int 29, .int x1]) (rest := []) rfl (okc_t rfl rfl rfl hS.1 hY4 (by decide)) rfl rfl (tw_Ve_wrong hS.1 hY4 (by omega)) (fun v19 M20 h21 => ?_)
        obtain ⟨rfl, h21⟩ := h21
        have hS23 := hS.tr h21.1
        show ml _ _ _ (54, [(0, .ref a), (1, .int x1), (2, .int x2)], [.int 0], M20) _
        exact ml_ret rfl (r_z (Or.inl rfl)) (⟨⟨_, rfl, Or.inl rfl⟩, hS23⟩)
    · have c_31 : ¬ (¬ x2 = 0) := of_decide_eq_false c_31
      refine ml_st (S' := (35, [(0, .ref a), (1, .int x1), (2, .int x2)], [.int 1], M)) rfl rfl rfl ?_
      exact ml_ret rfl (r_z (Or.inr rfl)) (⟨⟨_, rfl, Or.inr rfl⟩, hS⟩)
  · have c_16 : ¬ (u8 = 1) := of_decide_eq_false c_16
    refine ml_st (S' := (20, [(0, .ref a), (1, .int x1), (2, .int x2)], [.ref a], M)) rfl rfl rfl ?_
    refine tg_ref (S' := (23, [(0, .ref a), (1, .int x1), (2, .int x2)], [.ref vd], M)) rfl hS.1 hY0 (by decide) rfl rfl ?_
    refine ml_blk 2 (S' := (26, [(0, .ref a), (1, .int x1), (2, .int x2)], [.int x1, .int 28, .ref vd], M)) rfl ?_
    refine ml_call (a := [.ref vd, .int 28, .int x1]) (rest := []) rfl (okc_t rfl rfl rfl hS.1 hY4 (by decide)) rfl rfl (tw_Ve_wrong hS.1 hY4 (by omega)) (fun v24 M25 h26 => ?_)
    obtain ⟨rfl, h26⟩ := h26
    have hS28 := hS.tr h26.1
    show ml _ _ _ (29, [(0, .ref a), (1, .int x1), (2, .int x2)], [.int 0], M25) _
    exact ml_ret rfl (r_z (Or.inl rfl)) (⟨⟨_, rfl, Or.inl rfl⟩, hS28⟩)
set_option maxHeartbeats 2000000 in
theorem tw_At_recordHolds {g : xe_G} {M : mi_H} {Y : yT} {a c b p vd da n : Nat} {pp : List Nat} {x1 : Int32}  (hW : WF g Y M) (hY0 : Y.1 a = some (0, [c, b, p, vd])) (hY1 : Y.1 c = some (3, [b, da, n])) (hY2 : Y.1 b = some (1, [da, n])) (hY3 : Y.1 p = some (7, pp)) (hY4 : Y.1 vd = some (10, [])) {d : Nat} (hd : 4 ≤ d) : mt (mT g) d 42 [.ref a, .int x1] M (qZ g Y M) := by
  obtain ⟨d, rfl⟩ : ∃ e, d = e + 1 := ⟨d - 1, by omega⟩
  have hS : st g Y M M := st.rf hW
  refine mt_in (b := mb_42 g) rfl rfl ?_
  show ml (mT g) d (mb_42 g).2 (0, [(0, .ref a), (1, .int x1)], [], M) _
  refine ml_blk 3 (S' := (4, [(0, .ref a), (1, .int x1)], [.int (x1 + 8)], M)) rfl ?_
  refine ml_st (S' := (5, [(2, .int (x1 + 8)), (0, .ref a), (1, .int x1)], [], M)) rfl rfl rfl ?_
  refine ml_st (S' := (6, [(2, .int (x1 + 8)), (0, .ref a), (1, .int x1)], [.int 0], M)) rfl rfl rfl ?_
  refine ml_st (S' := (7, [(0, .ref a), (1, .int x1), (2, .int (x1 + 8)), (3, .int 0)], [], M)) rfl rfl rfl ?_
  have L_7 : ∀ (n_7 : Nat) (i7_2 : Int32) (i7_3 : Int32) (M_7 : mi_H), (2147483648 - i7_3.toInt).toNat ≤ n_7 → st g Y M M_7 → ml (mT g) d (mb_42 g).2 (7, [(0, .ref a), (1, .int x1), (2, .int i7_2), (3, .int i7_3)], [], M_7) (qZ g Y M) := by
    intro n_7
    induction n_7 with
    | zero => intro i7_2 i7_3 M_7 hn; exact (loop_zero hn).elim
    | succ n_7 ih_7 =>
      intro i7_2 i7_3 M_7 hn_7 hS_7
      refine ml_blk 2 (S' := (9, [(0, .ref a), (1, .int x1), (2, .int i7_2), (3, .int i7_3)], [.ref a, .int i7_3], M_7)) rfl ?_
      refine tg_ref (S' := (12, [(0, .ref a), (1, .int x1), (2, .int i7_2), (3, .int i7_3)], [.ref c, .int i7_3], M_7)) rfl hS_7.1 hY0 (by decide) rfl rfl ?_
      refine tg_int rfl hS_7.1 hY1 (by decide) rfl (fun u1 g2 => ?_)
      show ml _ _ _ (15, [(0, .ref a), (1, .int x1), (2, .int i7_2), (3, .int i7_3)], [.int u1, .int i7_3], M_7) _
      refine ml_if2 (S1 := (121, [(0, .ref a), (1, .int x1), (2, .int i7_2), (3, .int i7_3)], [], M_7)) (S2 := (18, [(0, .ref a), (1, .int x1), (2, .int i7_2), (3, .int i7_3)], [], M_7)) rfl rfl rfl (fun c_15 => ?_) (fun c_15 => ?_)
      · have c_15 : u1 ≤ i7_3 := of_decide_eq_true c_15
        refine ml_st (S' := (122, [(0, .ref a), (1, .int x1), (2, .int i7_2), (3, .int i7_3)], [.int 1], M_7)) rfl rfl rfl ?_
        exact ml_ret rfl (r_z (Or.inr rfl)) (⟨⟨_, rfl, Or.inr rfl⟩, hS_7⟩)
      · have c_15 : ¬ (u1 ≤ i7_3) := of_decide_eq_false c_15
        refine ml_st (S' := (19, [(0, .ref a), (1, .int x1), (2, .int i7_2), (3, .int i7_3)], [.ref a], M_7)) rfl rfl rfl ?_
        refine tg_ref (S' := (22, [(0, .ref a), (1, .int x1), (2, .int i7_2), (3, .int i7_3)], [.ref p], M_7)) rfl hS_7.1 hY0 (by decide) rfl rfl ?_
        refine ml_st (S' := (23, [(0, .ref a), (1, .int x1), (2, .int i7_2), (3, .int i7_3)], [.ref a, .ref p], M_7)) rfl rfl rfl ?_
        refine tg_ref (S' := (26, [(0, .ref a), (1, .int x1), (2, .int i7_2), (3, .int i7_3)], [.ref b, .ref p], M_7)) rfl hS_7.1 hY0 (by decide) rfl rfl ?_
        refine ml_st (S' := (27, [(0, .ref a), (1, .int x1), (2, .int i7_2), (3, .int i7_3)], [.int i7_2, .ref b, .ref p], M_7)) rfl rfl rfl ?_
        refine ml_call (a := [.ref b, .int i7_2]) (rest := [.ref p]) rfl (okc_t rfl rfl rfl hS_7.1 hY2 (by decide)) rfl rfl (tq_u2 hS_7.1 hY2 (by omega)) (fun v3 M4 h5 => ?_)
        obtain ⟨⟨u6, rfl⟩, h5⟩ := h5
        rw [h5]
        show ml _ _ _ (30, [(0, .ref a), (1, .int x1), (2, .int i7_2), (3, .int i7_3)], [.int u6, .ref p], M_7) _
        refine ml_call (a := [.ref p, .int u6]) (rest := []) rfl (okc_t rfl rfl rfl hS_7.1 hY3 (by decide)) rfl rfl (tq_isUnqualifiedName hS_7.1 hY3 (by omega)) (fun v7 M8 h9 => ?_)
        obtain ⟨⟨u10, rfl, z11⟩, h9⟩ := h9
        rw [h9]
        show ml _ _ _ (33, [(0, .ref a), (1, .int x1), (2, .int i7_2), (3, .int i7_3)], [.int u10], M_7) _
        refine ml_if (S1 := (56, [(0, .ref a), (1, .int x1)], [], M_7)) (S2 := (36, [(0, .ref a), (1, .int x1), (2, .int i7_2), (3, .int i7_3)], [], M_7)) rfl rfl rfl (fun c_33 => ?_) (fun c_33 => ?_)
        · have c_33 : u10 = 0 := of_decide_eq_true c_33
          refine ml_st (S' := (57, [(0, .ref a), (1, .int x1)], [.ref a], M_7)) rfl rfl rfl ?_
          refine tg_ref (S' := (60, [(0, .ref a), (1, .int x1)], [.ref vd], M_7)) rfl hS_7.1 hY0 (by decide) rfl rfl ?_
          refine ml_blk 2 (S' := (63, [(0, .ref a), (1, .int x1)], [.int x1, .int 37, .ref vd], M_7)) rfl ?_
          refine ml_call (a := [.ref vd, .int 37, .int x1]) (rest := []) rfl (okc_t rfl rfl rfl hS_7.1 hY4 (by decide)) rfl rfl (tw_Ve_wrong hS_7.1 hY4 (by omega)) (fun v12 M13 h14 => ?_)
          obtain ⟨rfl, h14⟩ := h14
          have hS16 := hS_7.tr h14.1
          show ml _ _ _ (66, [(0, .ref a), (1, .int x1)], [.int 0], M13) _
          exact ml_ret rfl (r_z (Or.inl rfl)) (⟨⟨_, rfl, Or.inl rfl⟩, hS16⟩)
        · have c_33 : ¬ (u10 = 0) := of_decide_eq_false c_33
          refine ml_st (S' := (37, [(0, .ref a), (1, .int x1), (2, .int i7_2), (3, .int i7_3)], [.ref a], M_7)) rfl rfl rfl ?_
          refine tg_ref (S' := (40, [(0, .ref a), (1, .int x1), (2, .int i7_2), (3, .int i7_3)], [.ref p], M_7)) rfl hS_7.1 hY0 (by decide) rfl rfl ?_
          refine ml_st (S' := (41, [(0, .ref a), (1, .int x1), (2, .int i7_2), (3, .int i7_3)], [.ref a, .ref p], M_7)) rfl rfl rfl ?_
          refine tg_ref (S' := (44, [(0, .ref a), (1, .int x1), (2, .int i7_2), (3, .int i7_3)], [.ref b, .ref p], M_7)) rfl hS_7.1 hY0 (by decide) rfl rfl ?_
          refine ml_blk 3 (S' := (47, [(0, .ref a), (1, .int x1), (2, .int i7_2), (3, .int i7_3)], [.int (i7_2 + 2), .ref b, .ref p], M_7)) rfl ?_
          refine ml_call (a := [.ref b, .int (i7_2 + 2)]) (rest := [.ref p]) rfl (okc_t rfl rfl rfl hS_7.1 hY2 (by decide)) rfl rfl (tq_u2 hS_7.1 hY2 (by omega)) (fun v17 M18 h19 => ?_)
          obtain ⟨⟨u20, rfl⟩, h19⟩ := h19
          rw [h19]
          show ml _ _ _ (50, [(0, .ref a), (1, .int x1), (2, .int i7_2), (3, .int i7_3)], [.int u20, .ref p], M_7) _
          refine ml_call (a := [.ref p, .int u20]) (rest := []) rfl (okc_t rfl rfl rfl hS_7.1 hY3 (by decide)) rfl rfl (tq_isFieldDescriptor hS_7.1 hY3 (by omega)) (fun v21 M22 h23 => ?_)
          obtain ⟨⟨u24, rfl, z25⟩, h23⟩ := h23
          rw [h23]
          show ml _ _ _ (53, [(0, .ref a), (1, .int x1), (2, .int i7_2), (3, .int i7_3)], [.int u24], M_7) _
          refine ml_if (S1 := (67, [(0, .ref a), (1, .int x1), (2, .int i7_2), (3, .int i7_3)], [], M_7)) (S2 := (56, [(0, .ref a), (1, .int x1)], [], M_7)) rfl rfl rfl (fun c_53 => ?_) (fun c_53 => ?_)
          · have c_53 : ¬ u24 = 0 := of_decide_eq_true c_53
            refine ml_st (S' := (68, [(0, .ref a), (1, .int x1), (2, .int i7_2), (3, .int i7_3)], [.ref a], M_7)) rfl rfl rfl ?_
            refine tg_ref (S' := (71, [(0, .ref a), (1, .int x1), (2, .int i7_2), (3, .int i7_3)], [.ref b], M_7)) rfl hS_7.1 hY0 (by decide) rfl rfl ?_
            refine ml_blk 3 (S' := (74, [(0, .ref a), (1, .int x1), (2, .int i7_2), (3, .int i7_3)], [.int (i7_2 + 4), .ref b], M_7)) rfl ?_
            refine ml_call (a := [.ref b, .int (i7_2 + 4)]) (rest := []) rfl (okc_t rfl rfl rfl hS_7.1 hY2 (by decide)) rfl rfl (tq_u2 hS_7.1 hY2 (by omega)) (fun v26 M27 h28 => ?_)
            obtain ⟨⟨u29, rfl⟩, h28⟩ := h28
            rw [h28]
            show ml _ _ _ (77, [(0, .ref a), (1, .int x1), (2, .int i7_2), (3, .int i7_3)], [.int u29], M_7) _
            refine ml_st (S' := (79, [(4, .int u29), (0, .ref a), (1, .int x1), (2, .int i7_2), (3, .int i7_3)], [], M_7)) rfl rfl rfl ?_
            refine ml_st (S' := (82, [(2, .int (i7_2 + 6)), (4, .int u29), (0, .ref a), (1, .int x1), (3, .int i7_3)], [], M_7)) rfl rfl rfl ?_
            refine ml_st (S' := (83, [(2, .int (i7_2 + 6)), (4, .int u29), (0, .ref a), (1, .int x1), (3, .int i7_3)], [.int 0], M_7)) rfl rfl rfl ?_
            refine ml_st (S' := (85, [(0, .ref a), (1, .int x1), (2, .int (i7_2 + 6)), (3, .int i7_3), (4, .int u29), (5, .int 0)], [], M_7)) rfl rfl rfl ?_
            have L_85 : ∀ (n_85 : Nat) (i85_2 : Int32) (i85_5 : Int32) (M_85 : mi_H), (2147483648 - i85_5.toInt).toNat ≤ n_85 → st g Y M M_85 → ml (mT g) d (mb_42 g).2 (85, [(0, .ref a), (1, .int x1), (2, .int i85_2), (3, .int i7_3), (4, .int u29), (5, .int i85_5)], [], M_85) (qZ g Y M) := by
              intro n_85
              induction n_85 with
              | zero => intro i85_2 i85_5 M_85 hn; exact (loop_zero hn).elim
              | succ n_85 ih_85 =>
                intro i85_2 i85_5 M_85 hn_85 hS_85
                refine ml_blk 2 (S' := (89, [(0, .ref a), (1, .int x1), (2, .int i85_2), (3, .int i7_3), (4, .int u29), (5, .int i85_5)], [.int u29, .int i85_5], M_85)) rfl ?_
                refine ml_if2 (S1 := (115, [(0, .ref a), (1, .int x1), (2, .int i85_2), (3, .int i7_3), (4, .int u29), (5, .int i85_5)], [], M_85)) (S2 := (92, [(0, .ref a), (1, .int x1), (2, .int i85_2), (3, .int i7_3), (4, .int u29), (5, .int i85_5)], [], M_85)) rfl rfl rfl (fun c_89 => ?_) (fun c_89 => ?_)
                · have c_89 : u29 ≤ i85_5 := of_decide_eq_true c_89
                  refine ml_st (S' := (118, [(3, .int (i7_3 + 1)), (0, .ref a), (1, .int x1), (2, .int i85_2), (4, .int u29), (5, .int i85_5)], [], M_85)) rfl rfl rfl ?_
                  refine ml_st (S' := (7, [(0, .ref a), (1, .int x1), (2, .int i85_2), (3, .int (i7_3 + 1))], [], M_85)) rfl rfl rfl ?_
                  exact ih_7 i85_2 (i7_3 + 1) _ (loop_inc (Int32.not_le.mp c_15) hn_7) hS_85
                · have c_89 : ¬ (u29 ≤ i85_5) := of_decide_eq_false c_89
                  refine ml_blk 3 (S' := (95, [(0, .ref a), (1, .int x1), (2, .int i85_2), (3, .int i7_3), (4, .int u29), (5, .int i85_5)], [.int 0, .int i85_2, .ref a], M_85)) rfl ?_
                  refine ml_call (a := [.ref a, .int i85_2, .int 0]) (rest := []) rfl (okc_t rfl rfl rfl hS_85.1 hY0 (by decide)) rfl rfl (tw_At_isNew hS_85.1 hY0 hY1 hY2 hY3 hY4 (by omega)) (fun v30 M31 h32 => ?_)
                  obtain ⟨⟨u33, rfl, z34⟩, h32⟩ := h32
                  have hS35 := hS_85.tr h32
                  show ml _ _ _ (98, [(0, .ref a), (1, .int x1), (2, .int i85_2), (3, .int i7_3), (4, .int u29), (5, .int i85_5)], [.int u33], M31) _
                  refine ml_if (S1 := (103, [(0, .ref a), (1, .int x1), (2, .int i85_2), (3, .int i7_3), (4, .int u29), (5, .int i85_5)], [], M31)) (S2 := (101, [(0, .ref a), (1, .int x1), (2, .int i85_2), (3, .int i7_3), (4, .int u29), (5, .int i85_5)], [], M31)) rfl rfl rfl (fun c_98 => ?_) (fun c_98 => ?_)
                  · have c_98 : ¬ u33 = 0 := of_decide_eq_true c_98
                    refine ml_blk 2 (S' := (105, [(0, .ref a), (1, .int x1), (2, .int i85_2), (3, .int i7_3), (4, .int u29), (5, .int i85_5)], [.int i85_2, .ref a], M31)) rfl ?_
                    refine ml_call (a := [.ref a, .int i85_2]) (rest := []) rfl (okc_t rfl rfl rfl hS35.1 hY0 (by decide)) rfl rfl (tw_At_behind hS35.1 hY0 hY1 hY2 hY3 hY4 (by omega)) (fun v36 M37 h38 => ?_)
                    obtain ⟨⟨u39, rfl⟩, h38⟩ := h38
                    rw [h38]
                    show ml _ _ _ (108, [(0, .ref a), (1, .int x1), (2, .int i85_2), (3, .int i7_3), (4, .int u29), (5, .int i85_5)], [.int u39], M31) _
                    refine ml_st (S' := (109, [(2, .int u39), (0, .ref a), (1, .int x1), (3, .int i7_3), (4, .int u29), (5, .int i85_5)], [], M31)) rfl rfl rfl ?_
                    refine ml_st (S' := (112, [(5, .int (i85_5 + 1)), (2, .int u39), (0, .ref a), (1, .int x1), (3, .int i7_3), (4, .int u29)], [], M31)) rfl rfl rfl ?_
                    refine ml_st (S' := (85, [(0, .ref a), (1, .int x1), (2, .int u39), (3, .int i7_3), (4, .int u29), (5, .int (i85_5 + 1))], [], M31)) rfl rfl rfl ?_
                    exact ih_85 u39 (i85_5 + 1) _ (loop_inc (Int32.not_le.mp c_89) hn_85) hS35
                  · have c_98 : ¬ (¬ u33 = 0) := of_decide_eq_false c_98
                    refine ml_st (S' := (102, [(0, .ref a), (1, .int x1), (2, .int i85_2), (3, .int i7_3), (4, .int u29), (5, .int i85_5)], [.int 0], M31)) rfl rfl rfl ?_
                    exact ml_ret rfl (r_z (Or.inl rfl)) (⟨⟨_, rfl, Or.inl rfl⟩, hS35⟩)
            exact L_85 _ (i7_2 + 6) 0 _ (Nat.le_refl _) hS_7
          · have c_53 : ¬ (¬ u24 = 0) := of_decide_eq_false c_53
            refine ml_st (S' := (57, [(0, .ref a), (1, .int x1)], [.ref a], M_7)) rfl rfl rfl ?_
            refine tg_ref (S' := (60, [(0, .ref a), (1, .int x1)], [.ref vd], M_7)) rfl hS_7.1 hY0 (by decide) rfl rfl ?_
            refine ml_blk 2 (S' := (63, [(0, .ref a), (1, .int x1)], [.int x1, .int 37, .ref vd], M_7)) rfl ?_
            refine ml_call (a := [.ref vd, .int 37, .int x1]) (rest := []) rfl (okc_t rfl rfl rfl hS_7.1 hY4 (by decide)) rfl rfl (tw_Ve_wrong hS_7.1 hY4 (by omega)) (fun v40 M41 h42 => ?_)
            obtain ⟨rfl, h42⟩ := h42
            have hS44 := hS_7.tr h42.1
            show ml _ _ _ (66, [(0, .ref a), (1, .int x1)], [.int 0], M41) _
            exact ml_ret rfl (r_z (Or.inl rfl)) (⟨⟨_, rfl, Or.inl rfl⟩, hS44⟩)
  exact L_7 _ (x1 + 8) 0 _ (Nat.le_refl _) hS
set_option maxHeartbeats 2000000 in
theorem tw_At_brokenRule {g : xe_G} {M : mi_H} {Y : yT} {a c b p vd da n : Nat} {pp : List Nat} {x1 x2 : Int32}  (hW : WF g Y M) (hY0 : Y.1 a = some (0, [c, b, p, vd])) (hY1 : Y.1 c = some (3, [b, da, n])) (hY2 : Y.1 b = some (1, [da, n])) (hY3 : Y.1 p = some (7, pp)) (hY4 : Y.1 vd = some (10, [])) {d : Nat} (hd : 5 ≤ d) : mt (mT g) d 26 [.ref a, .int x1, .int x2] M (qI g Y M) := by
  obtain ⟨d, rfl⟩ : ∃ e, d = e + 1 := ⟨d - 1, by omega⟩
  have hS : st g Y M M := st.rf hW
  refine mt_in (b := mb_26 g) rfl rfl ?_
  show ml (mT g) d (mb_26 g).2 (0, [(0, .ref a), (1, .int x1), (2, .int x2)], [], M) _
  refine ml_st (S' := (1, [(0, .ref a), (1, .int x1), (2, .int x2)], [.int x1], M)) rfl rfl rfl ?_
  refine ml_sw rfl (fun t_1 ht_1 => ?_)
  have kt_1 := ht_1
  have ht_1 : t_1 ∈ [40, 73, 112, 154, 199, 231, 274] := mi_sw_sub ht_1 (by decide)
  simp only [List.mem_cons, List.not_mem_nil, or_false] at ht_1
  rcases ht_1 with rfl | rfl | rfl | rfl | rfl | rfl | rfl
  · show ml _ _ _ (40, [(0, .ref a), (1, .int x1), (2, .int x2)], [], M) _
    refine ml_st (S' := (41, [(0, .ref a), (1, .int x1), (2, .int x2)], [.ref a], M)) rfl rfl rfl ?_
    refine tg_ref (S' := (44, [(0, .ref a), (1, .int x1), (2, .int x2)], [.ref c], M)) rfl hS.1 hY0 (by decide) rfl rfl ?_
    refine ml_st (S' := (45, [(0, .ref a), (1, .int x1), (2, .int x2)], [.ref a, .ref c], M)) rfl rfl rfl ?_
    refine tg_ref (S' := (48, [(0, .ref a), (1, .int x1), (2, .int x2)], [.ref b, .ref c], M)) rfl hS.1 hY0 (by decide) rfl rfl ?_
    refine ml_blk 3 (S' := (52, [(0, .ref a), (1, .int x1), (2, .int x2)], [.int (x2 + 6), .ref b, .ref c], M)) rfl ?_
    refine ml_call (a := [.ref b, .int (x2 + 6)]) (rest := [.ref c]) rfl (okc_t rfl rfl rfl hS.1 hY2 (by decide)) rfl rfl (tq_u2 hS.1 hY2 (by omega)) (fun v1 M2 h3 => ?_)
    obtain ⟨⟨u4, rfl⟩, h3⟩ := h3
    rw [h3]
    show ml _ _ _ (55, [(0, .ref a), (1, .int x1), (2, .int x2)], [.int u4, .ref c], M) _
    refine tp_put rfl hS hY1 (by decide) rfl (⟨_, rfl⟩) rfl rfl (fun M5 hS6 f7 => ?_)
    show ml _ _ _ (58, [(0, .ref a), (1, .int x1), (2, .int x2)], [], M5) _
    refine ml_blk 2 (S' := (60, [(0, .ref a), (1, .int x1), (2, .int x2)], [.int x2, .ref a], M5)) rfl ?_
    refine ml_call (a := [.ref a, .int x2]) (rest := []) rfl (okc_t rfl rfl rfl hS6.1 hY0 (by decide)) rfl rfl (tw_At_innerClassesHold hS6.1 hY0 hY1 hY2 hY3 hY4 (by omega)) (fun v8 M9 h10 => ?_)
    obtain ⟨⟨u11, rfl, z12⟩, h10⟩ := h10
    rw [h10]
    show ml _ _ _ (63, [(0, .ref a), (1, .int x1), (2, .int x2)], [.int u11], M5) _
    refine ml_if (S1 := (70, [(0, .ref a), (1, .int x1), (2, .int x2)], [], M5)) (S2 := (66, [(0, .ref a), (1, .int x1), (2, .int x2)], [], M5)) rfl rfl rfl (fun c_63 => ?_) (fun c_63 => ?_)
    · have c_63 : u11 = 0 := of_decide_eq_true c_63
      refine ml_st (S' := (72, [], [.int 33], M5)) rfl rfl rfl ?_
      exact ml_ret rfl (rfl) (⟨⟨_, rfl⟩, hS6⟩)
    · have c_63 : ¬ (u11 = 0) := of_decide_eq_false c_63
      refine ml_st (S' := (67, [(0, .ref a), (1, .int x1), (2, .int x2)], [.int 0], M5)) rfl rfl rfl ?_
      refine ml_st (S' := (72, [], [.int 0], M5)) rfl rfl rfl ?_
      exact ml_ret rfl (rfl) (⟨⟨_, rfl⟩, hS6⟩)
  · show ml _ _ _ (73, [(0, .ref a), (1, .int x1), (2, .int x2)], [], M) _
    refine ml_st (S' := (74, [(0, .ref a), (1, .int x1), (2, .int x2)], [.ref a], M)) rfl rfl rfl ?_
    refine tg_ref (S' := (77, [(0, .ref a), (1, .int x1), (2, .int x2)], [.ref p], M)) rfl hS.1 hY0 (by decide) rfl rfl ?_
    refine ml_st (S' := (78, [(0, .ref a), (1, .int x1), (2, .int x2)], [.ref a, .ref p], M)) rfl rfl rfl ?_
    refine tg_ref (S' := (81, [(0, .ref a), (1, .int x1), (2, .int x2)], [.ref b, .ref p], M)) rfl hS.1 hY0 (by decide) rfl rfl ?_
    refine ml_blk 3 (S' := (85, [(0, .ref a), (1, .int x1), (2, .int x2)], [.int (x2 + 6), .ref b, .ref p], M)) rfl ?_
    refine ml_call (a := [.ref b, .int (x2 + 6)]) (rest := [.ref p]) rfl (okc_t rfl rfl rfl hS.1 hY2 (by decide)) rfl rfl (tq_u2 hS.1 hY2 (by omega)) (fun v13 M14 h15 => ?_)
    obtain ⟨⟨u16, rfl⟩, h15⟩ := h15
    rw [h15]
    show ml _ _ _ (88, [(0, .ref a), (1, .int x1), (2, .int x2)], [.int u16, .ref p], M) _
    refine ml_call (a := [.ref p, .int u16]) (rest := []) rfl (okc_t rfl rfl rfl hS.1 hY3 (by decide)) rfl rfl (tq_tagOf hS.1 hY3 (by omega)) (fun v17 M18 h19 => ?_)
    obtain ⟨⟨u20, rfl⟩, h19⟩ := h19
    rw [h19]
    show ml _ _ _ (91, [(0, .ref a), (1, .int x1), (2, .int x2)], [.int u20], M) _
    refine ml_st (S' := (93, [(0, .ref a), (1, .int x1), (2, .int x2)], [.int 7, .int u20], M)) rfl rfl rfl ?_
    refine ml_if2 (S1 := (109, [], [], M)) (S2 := (96, [(0, .ref a), (1, .int x1), (2, .int x2)], [], M)) rfl rfl rfl (fun c_93 => ?_) (fun c_93 => ?_)
    · have c_93 : ¬ u20 = 7 := of_decide_eq_true c_93
      refine ml_st (S' := (111, [], [.int 34], M)) rfl rfl rfl ?_
      exact ml_ret rfl (rfl) (⟨⟨_, rfl⟩, hS⟩)
    · have c_93 : ¬ (¬ u20 = 7) := of_decide_eq_false c_93
      refine ml_blk 2 (S' := (99, [(0, .ref a), (1, .int x1), (2, .int x2)], [.int 8, .ref a], M)) rfl ?_
      refine ml_call (a := [.ref a, .int 8]) (rest := []) rfl (okc_t rfl rfl rfl hS.1 hY0 (by decide)) rfl rfl (tw_At_hasSeen hS.1 hY0 hY1 hY2 hY3 hY4 (by omega)) (fun v21 M22 h23 => ?_)
      obtain ⟨⟨u24, rfl, z25⟩, h23⟩ := h23
      rw [h23]
      show ml _ _ _ (102, [(0, .ref a), (1, .int x1), (2, .int x2)], [.int u24], M) _
      refine ml_if (S1 := (109, [], [], M)) (S2 := (105, [(0, .ref a), (1, .int x1), (2, .int x2)], [], M)) rfl rfl rfl (fun c_102 => ?_) (fun c_102 => ?_)
      · have c_102 : ¬ u24 = 0 := of_decide_eq_true c_102
        refine ml_st (S' := (111, [], [.int 34], M)) rfl rfl rfl ?_
        exact ml_ret rfl (rfl) (⟨⟨_, rfl⟩, hS⟩)
      · have c_102 : ¬ (¬ u24 = 0) := of_decide_eq_false c_102
        refine ml_st (S' := (106, [(0, .ref a), (1, .int x1), (2, .int x2)], [.int 0], M)) rfl rfl rfl ?_
        refine ml_st (S' := (111, [], [.int 0], M)) rfl rfl rfl ?_
        exact ml_ret rfl (rfl) (⟨⟨_, rfl⟩, hS⟩)
  · show ml _ _ _ (112, [(0, .ref a), (1, .int x1), (2, .int x2)], [], M) _
    refine ml_st (S' := (113, [(0, .ref a), (1, .int x1), (2, .int x2)], [.ref a], M)) rfl rfl rfl ?_
    refine tg_ref (S' := (116, [(0, .ref a), (1, .int x1), (2, .int x2)], [.ref c], M)) rfl hS.1 hY0 (by decide) rfl rfl ?_
    refine ml_st (S' := (117, [(0, .ref a), (1, .int x1), (2, .int x2)], [.ref a, .ref c], M)) rfl rfl rfl ?_
    refine tg_ref (S' := (120, [(0, .ref a), (1, .int x1), (2, .int x2)], [.ref b, .ref c], M)) rfl hS.1 hY0 (by decide) rfl rfl ?_
    refine ml_blk 3 (S' := (124, [(0, .ref a), (1, .int x1), (2, .int x2)], [.int (x2 + 6), .ref b, .ref c], M)) rfl ?_
    refine ml_call (a := [.ref b, .int (x2 + 6)]) (rest := [.ref c]) rfl (okc_t rfl rfl rfl hS.1 hY2 (by decide)) rfl rfl (tq_u2 hS.1 hY2 (by omega)) (fun v26 M27 h28 => ?_)
    obtain ⟨⟨u29, rfl⟩, h28⟩ := h28
    rw [h28]
    show ml _ _ _ (127, [(0, .ref a), (1, .int x1), (2, .int x2)], [.int u29, .ref c], M) _
    refine tp_put rfl hS hY1 (by decide) rfl (⟨_, rfl⟩) rfl rfl (fun M30 hS31 f32 => ?_)
    show ml _ _ _ (130, [(0, .ref a), (1, .int x1), (2, .int x2)], [], M30) _
    refine ml_blk 2 (S' := (132, [(0, .ref a), (1, .int x1), (2, .int x2)], [.int x2, .ref a], M30)) rfl ?_
    refine ml_call (a := [.ref a, .int x2]) (rest := []) rfl (okc_t rfl rfl rfl hS31.1 hY0 (by decide)) rfl rfl (tw_At_areClasses hS31.1 hY0 hY1 hY2 hY3 hY4 (by omega)) (fun v33 M34 h35 => ?_)
    obtain ⟨⟨u36, rfl, z37⟩, h35⟩ := h35
    rw [h35]
    show ml _ _ _ (135, [(0, .ref a), (1, .int x1), (2, .int x2)], [.int u36], M30) _
    refine ml_if (S1 := (151, [], [], M30)) (S2 := (138, [(0, .ref a), (1, .int x1), (2, .int x2)], [], M30)) rfl rfl rfl (fun c_135 => ?_) (fun c_135 => ?_)
    · have c_135 : u36 = 0 := of_decide_eq_true c_135
      refine ml_st (S' := (153, [], [.int 35], M30)) rfl rfl rfl ?_
      exact ml_ret rfl (rfl) (⟨⟨_, rfl⟩, hS31⟩)
    · have c_135 : ¬ (u36 = 0) := of_decide_eq_false c_135
      refine ml_blk 2 (S' := (141, [(0, .ref a), (1, .int x1), (2, .int x2)], [.int 7, .ref a], M30)) rfl ?_
      refine ml_call (a := [.ref a, .int 7]) (rest := []) rfl (okc_t rfl rfl rfl hS31.1 hY0 (by decide)) rfl rfl (tw_At_hasSeen hS31.1 hY0 hY1 hY2 hY3 hY4 (by omega)) (fun v38 M39 h40 => ?_)
      obtain ⟨⟨u41, rfl, z42⟩, h40⟩ := h40
      rw [h40]
      show ml _ _ _ (144, [(0, .ref a), (1, .int x1), (2, .int x2)], [.int u41], M30) _
      refine ml_if (S1 := (151, [], [], M30)) (S2 := (147, [(0, .ref a), (1, .int x1), (2, .int x2)], [], M30)) rfl rfl rfl (fun c_144 => ?_) (fun c_144 => ?_)
      · have c_144 : ¬ u41 = 0 := of_decide_eq_true c_144
        refine ml_st (S' := (153, [], [.int 35], M30)) rfl rfl rfl ?_
        exact ml_ret rfl (rfl) (⟨⟨_, rfl⟩, hS31⟩)
      · have c_144 : ¬ (¬ u41 = 0) := of_decide_eq_false c_144
        refine ml_st (S' := (148, [(0, .ref a), (1, .int x1), (2, .int x2)], [.int 0], M30)) rfl rfl rfl ?_
        refine ml_st (S' := (153, [], [.int 0], M30)) rfl rfl rfl ?_
        exact ml_ret rfl (rfl) (⟨⟨_, rfl⟩, hS31⟩)
  · show ml _ _ _ (154, [(0, .ref a), (1, .int x1), (2, .int x2)], [], M) _
    refine ml_st (S' := (155, [(0, .ref a), (1, .int x1), (2, .int x2)], [.ref a], M)) rfl rfl rfl ?_
    refine tg_ref (S' := (158, [(0, .ref a), (1, .int x1), (2, .int x2)], [.ref c], M)) rfl hS.1 hY0 (by decide) rfl rfl ?_
    refine ml_st (S' := (159, [(0, .ref a), (1, .int x1), (2, .int x2)], [.ref a, .ref c], M)) rfl rfl rfl ?_
    refine tg_ref (S' := (162, [(0, .ref a), (1, .int x1), (2, .int x2)], [.ref b, .ref c], M)) rfl hS.1 hY0 (by decide) rfl rfl ?_
    refine ml_blk 3 (S' := (166, [(0, .ref a), (1, .int x1), (2, .int x2)], [.int (x2 + 6), .ref b, .ref c], M)) rfl ?_
    refine ml_call (a := [.ref b, .int (x2 + 6)]) (rest := [.ref c]) rfl (okc_t rfl rfl rfl hS.1 hY2 (by decide)) rfl rfl (tq_u2 hS.1 hY2 (by omega)) (fun v43 M44 h45 => ?_)
    obtain ⟨⟨u46, rfl⟩, h45⟩ := h45
    rw [h45]
    show ml _ _ _ (169, [(0, .ref a), (1, .int x1), (2, .int x2)], [.int u46, .ref c], M) _
    refine tp_put rfl hS hY1 (by decide) rfl (⟨_, rfl⟩) rfl rfl (fun M47 hS48 f49 => ?_)
    show ml _ _ _ (172, [(0, .ref a), (1, .int x1), (2, .int x2)], [], M47) _
    refine ml_blk 2 (S' := (174, [(0, .ref a), (1, .int x1), (2, .int x2)], [.int x2, .ref a], M47)) rfl ?_
    refine ml_call (a := [.ref a, .int x2]) (rest := []) rfl (okc_t rfl rfl rfl hS48.1 hY0 (by decide)) rfl rfl (tw_At_areClasses hS48.1 hY0 hY1 hY2 hY3 hY4 (by omega)) (fun v50 M51 h52 => ?_)
    obtain ⟨⟨u53, rfl, z54⟩, h52⟩ := h52
    rw [h52]
    show ml _ _ _ (177, [(0, .ref a), (1, .int x1), (2, .int x2)], [.int u53], M47) _
    refine ml_if (S1 := (196, [], [], M47)) (S2 := (180, [(0, .ref a), (1, .int x1), (2, .int x2)], [], M47)) rfl rfl rfl (fun c_177 => ?_) (fun c_177 => ?_)
    · have c_177 : u53 = 0 := of_decide_eq_true c_177
      refine ml_st (S' := (198, [], [.int 36], M47)) rfl rfl rfl ?_
      exact ml_ret rfl (rfl) (⟨⟨_, rfl⟩, hS48⟩)
    · have c_177 : ¬ (u53 = 0) := of_decide_eq_false c_177
      refine ml_st (S' := (181, [(0, .ref a), (1, .int x1), (2, .int x2)], [.ref a], M47)) rfl rfl rfl ?_
      refine tg_ref (S' := (184, [(0, .ref a), (1, .int x1), (2, .int x2)], [.ref c], M47)) rfl hS48.1 hY0 (by decide) rfl rfl ?_
      refine ml_st (S' := (186, [(0, .ref a), (1, .int x1), (2, .int x2)], [.int 16, .ref c], M47)) rfl rfl rfl ?_
      refine ml_call (a := [.ref c, .int 16]) (rest := []) rfl (okc_t rfl rfl rfl hS48.1 hY1 (by decide)) rfl rfl (tw_Cl_has hS48.1 hY1 hY2 (by omega)) (fun v55 M56 h57 => ?_)
      obtain ⟨⟨u58, rfl, z59⟩, h57⟩ := h57
      rw [h57]
      show ml _ _ _ (189, [(0, .ref a), (1, .int x1), (2, .int x2)], [.int u58], M47) _
      refine ml_if (S1 := (196, [], [], M47)) (S2 := (192, [(0, .ref a), (1, .int x1), (2, .int x2)], [], M47)) rfl rfl rfl (fun c_189 => ?_) (fun c_189 => ?_)
      · have c_189 : ¬ u58 = 0 := of_decide_eq_true c_189
        refine ml_st (S' := (198, [], [.int 36], M47)) rfl rfl rfl ?_
        exact ml_ret rfl (rfl) (⟨⟨_, rfl⟩, hS48⟩)
      · have c_189 : ¬ (¬ u58 = 0) := of_decide_eq_false c_189
        refine ml_st (S' := (193, [(0, .ref a), (1, .int x1), (2, .int x2)], [.int 0], M47)) rfl rfl rfl ?_
        refine ml_st (S' := (198, [], [.int 0], M47)) rfl rfl rfl ?_
        exact ml_ret rfl (rfl) (⟨⟨_, rfl⟩, hS48⟩)
  · show ml _ _ _ (199, [(0, .ref a), (1, .int x1), (2, .int x2)], [], M) _
    refine ml_st (S' := (200, [(0, .ref a), (1, .int x1), (2, .int x2)], [.ref a], M)) rfl rfl rfl ?_
    refine tg_ref (S' := (203, [(0, .ref a), (1, .int x1), (2, .int x2)], [.ref c], M)) rfl hS.1 hY0 (by decide) rfl rfl ?_
    refine ml_st (S' := (204, [(0, .ref a), (1, .int x1), (2, .int x2)], [.ref a, .ref c], M)) rfl rfl rfl ?_
    refine tg_ref (S' := (207, [(0, .ref a), (1, .int x1), (2, .int x2)], [.ref b, .ref c], M)) rfl hS.1 hY0 (by decide) rfl rfl ?_
    refine ml_blk 3 (S' := (211, [(0, .ref a), (1, .int x1), (2, .int x2)], [.int (x2 + 6), .ref b, .ref c], M)) rfl ?_
    refine ml_call (a := [.ref b, .int (x2 + 6)]) (rest := [.ref c]) rfl (okc_t rfl rfl rfl hS.1 hY2 (by decide)) rfl rfl (tq_u2 hS.1 hY2 (by omega)) (fun v60 M61 h62 => ?_)
    obtain ⟨⟨u63, rfl⟩, h62⟩ := h62
    rw [h62]
    show ml _ _ _ (214, [(0, .ref a), (1, .int x1), (2, .int x2)], [.int u63, .ref c], M) _
    refine tp_put rfl hS hY1 (by decide) rfl (⟨_, rfl⟩) rfl rfl (fun M64 hS65 f66 => ?_)
    show ml _ _ _ (217, [(0, .ref a), (1, .int x1), (2, .int x2)], [], M64) _
    refine ml_blk 2 (S' := (219, [(0, .ref a), (1, .int x1), (2, .int x2)], [.int x2, .ref a], M64)) rfl ?_
    refine ml_call (a := [.ref a, .int x2]) (rest := []) rfl (okc_t rfl rfl rfl hS65.1 hY0 (by decide)) rfl rfl (tw_At_recordHolds hS65.1 hY0 hY1 hY2 hY3 hY4 (by omega)) (fun v67 M68 h69 => ?_)
    obtain ⟨⟨u70, rfl, z71⟩, h69⟩ := h69
    have hS72 := hS65.tr h69
    show ml _ _ _ (222, [(0, .ref a), (1, .int x1), (2, .int x2)], [.int u70], M68) _
    refine ml_if (S1 := (229, [(0, .ref a), (1, .int x1), (2, .int x2)], [], M68)) (S2 := (225, [(0, .ref a), (1, .int x1), (2, .int x2)], [], M68)) rfl rfl rfl (fun c_222 => ?_) (fun c_222 => ?_)
    · have c_222 : u70 = 0 := of_decide_eq_true c_222
      refine ml_st (S' := (230, [], [.int (-1)], M68)) rfl rfl rfl ?_
      exact ml_ret rfl (rfl) (⟨⟨_, rfl⟩, hS72⟩)
    · have c_222 : ¬ (u70 = 0) := of_decide_eq_false c_222
      refine ml_st (S' := (226, [(0, .ref a), (1, .int x1), (2, .int x2)], [.int 0], M68)) rfl rfl rfl ?_
      refine ml_st (S' := (230, [], [.int 0], M68)) rfl rfl rfl ?_
      exact ml_ret rfl (rfl) (⟨⟨_, rfl⟩, hS72⟩)
  · show ml _ _ _ (231, [(0, .ref a), (1, .int x1), (2, .int x2)], [], M) _
    refine ml_st (S' := (232, [(0, .ref a), (1, .int x1), (2, .int x2)], [.ref a], M)) rfl rfl rfl ?_
    refine tg_ref (S' := (235, [(0, .ref a), (1, .int x1), (2, .int x2)], [.ref c], M)) rfl hS.1 hY0 (by decide) rfl rfl ?_
    refine ml_st (S' := (236, [(0, .ref a), (1, .int x1), (2, .int x2)], [.ref a, .ref c], M)) rfl rfl rfl ?_
    refine tg_ref (S' := (239, [(0, .ref a), (1, .int x1), (2, .int x2)], [.ref b, .ref c], M)) rfl hS.1 hY0 (by decide) rfl rfl ?_
    refine ml_blk 3 (S' := (243, [(0, .ref a), (1, .int x1), (2, .int x2)], [.int (x2 + 6), .ref b, .ref c], M)) rfl ?_
    refine ml_call (a := [.ref b, .int (x2 + 6)]) (rest := [.ref c]) rfl (okc_t rfl rfl rfl hS.1 hY2 (by decide)) rfl rfl (tq_u2 hS.1 hY2 (by omega)) (fun v73 M74 h75 => ?_)
    obtain ⟨⟨u76, rfl⟩, h75⟩ := h75
    rw [h75]
    show ml _ _ _ (246, [(0, .ref a), (1, .int x1), (2, .int x2)], [.int u76, .ref c], M) _
    refine tp_put rfl hS hY1 (by decide) rfl (⟨_, rfl⟩) rfl rfl (fun M77 hS78 f79 => ?_)
    show ml _ _ _ (249, [(0, .ref a), (1, .int x1), (2, .int x2)], [], M77) _
    refine ml_st (S' := (250, [(0, .ref a), (1, .int x1), (2, .int x2)], [.ref a], M77)) rfl rfl rfl ?_
    refine tg_ref (S' := (253, [(0, .ref a), (1, .int x1), (2, .int x2)], [.ref c], M77)) rfl hS78.1 hY0 (by decide) rfl rfl ?_
    refine ml_blk 3 (S' := (257, [(0, .ref a), (1, .int x1), (2, .int x2)], [.int (x2 + 8), .ref c], M77)) rfl ?_
    refine tp_put rfl hS78 hY1 (by decide) rfl (⟨_, rfl⟩) rfl rfl (fun M80 hS81 f82 => ?_)
    show ml _ _ _ (260, [(0, .ref a), (1, .int x1), (2, .int x2)], [], M80) _
    refine ml_st (S' := (261, [(0, .ref a), (1, .int x1), (2, .int x2)], [.ref a], M80)) rfl rfl rfl ?_
    refine ml_call (a := [.ref a]) (rest := []) rfl (okc_t rfl rfl rfl hS81.1 hY0 (by decide)) rfl rfl (tw_At_bootstrapsHold hS81.1 hY0 hY1 hY2 hY3 hY4 (by omega)) (fun v83 M84 h85 => ?_)
    obtain ⟨⟨u86, rfl, z87⟩, h85⟩ := h85
    rw [h85]
    show ml _ _ _ (264, [(0, .ref a), (1, .int x1), (2, .int x2)], [.int u86], M80) _
    refine ml_if (S1 := (271, [(0, .ref a), (1, .int x1), (2, .int x2)], [], M80)) (S2 := (267, [(0, .ref a), (1, .int x1), (2, .int x2)], [], M80)) rfl rfl rfl (fun c_264 => ?_) (fun c_264 => ?_)
    · have c_264 : u86 = 0 := of_decide_eq_true c_264
      refine ml_st (S' := (273, [], [.int 38], M80)) rfl rfl rfl ?_
      exact ml_ret rfl (rfl) (⟨⟨_, rfl⟩, hS81⟩)
    · have c_264 : ¬ (u86 = 0) := of_decide_eq_false c_264
      refine ml_st (S' := (268, [(0, .ref a), (1, .int x1), (2, .int x2)], [.int 0], M80)) rfl rfl rfl ?_
      refine ml_st (S' := (273, [], [.int 0], M80)) rfl rfl rfl ?_
      exact ml_ret rfl (rfl) (⟨⟨_, rfl⟩, hS81⟩)
  · show ml _ _ _ (274, [(0, .ref a), (1, .int x1), (2, .int x2)], [], M) _
    refine ml_st (S' := (275, [(0, .ref a), (1, .int x1), (2, .int x2)], [.int 0], M)) rfl rfl rfl ?_
    exact ml_ret rfl (rfl) (⟨⟨_, rfl⟩, hS⟩)
set_option maxHeartbeats 2000000 in
theorem tw_At_codeAttributesHold {g : xe_G} {M : mi_H} {Y : yT} {a c b p vd da n : Nat} {pp : List Nat} {x1 : Int32}  (hW : WF g Y M) (hY0 : Y.1 a = some (0, [c, b, p, vd])) (hY1 : Y.1 c = some (3, [b, da, n])) (hY2 : Y.1 b = some (1, [da, n])) (hY3 : Y.1 p = some (7, pp)) (hY4 : Y.1 vd = some (10, [])) {d : Nat} (hd : 3 ≤ d) : mt (mT g) d 28 [.ref a, .int x1] M (qZ g Y M) := by
  obtain ⟨d, rfl⟩ : ∃ e, d = e + 1 := ⟨d - 1, by omega⟩
  have hS : st g Y M M := st.rf hW
  refine mt_in (b := mb_28 g) rfl rfl ?_
  show ml (mT g) d (mb_28 g).2 (0, [(0, .ref a), (1, .int x1)], [], M) _
  refine ml_st (S' := (1, [(0, .ref a), (1, .int x1)], [.ref a], M)) rfl rfl rfl ?_
  refine tg_ref (S' := (4, [(0, .ref a), (1, .int x1)], [.ref b], M)) rfl hS.1 hY0 (by decide) rfl rfl ?_
  refine ml_st (S' := (5, [(0, .ref a), (1, .int x1)], [.int x1, .ref b], M)) rfl rfl rfl ?_
  refine ml_call (a := [.ref b, .int x1]) (rest := []) rfl (okc_t rfl rfl rfl hS.1 hY2 (by decide)) rfl rfl (tq_u2 hS.1 hY2 (by omega)) (fun v1 M2 h3 => ?_)
  obtain ⟨⟨u4, rfl⟩, h3⟩ := h3
  rw [h3]
  show ml _ _ _ (8, [(0, .ref a), (1, .int x1)], [.int u4], M) _
  refine ml_st (S' := (9, [(2, .int u4), (0, .ref a), (1, .int x1)], [], M)) rfl rfl rfl ?_
  refine ml_blk 3 (S' := (12, [(2, .int u4), (0, .ref a), (1, .int x1)], [.int (x1 + 2)], M)) rfl ?_
  refine ml_st (S' := (13, [(3, .int (x1 + 2)), (2, .int u4), (0, .ref a), (1, .int x1)], [], M)) rfl rfl rfl ?_
  refine ml_st (S' := (14, [(3, .int (x1 + 2)), (2, .int u4), (0, .ref a), (1, .int x1)], [.int 0], M)) rfl rfl rfl ?_
  refine ml_st (S' := (16, [(0, .ref a), (2, .int u4), (3, .int (x1 + 2)), (4, .int 0)], [], M)) rfl rfl rfl ?_
  have L_16 : ∀ (n_16 : Nat) (i16_3 : Int32) (i16_4 : Int32) (M_16 : mi_H), (2147483648 - i16_4.toInt).toNat ≤ n_16 → st g Y M M_16 → ml (mT g) d (mb_28 g).2 (16, [(0, .ref a), (2, .int u4), (3, .int i16_3), (4, .int i16_4)], [], M_16) (qZ g Y M) := by
    intro n_16
    induction n_16 with
    | zero => intro i16_3 i16_4 M_16 hn; exact (loop_zero hn).elim
    | succ n_16 ih_16 =>
      intro i16_3 i16_4 M_16 hn_16 hS_16
      refine ml_blk 2 (S' := (19, [(0, .ref a), (2, .int u4), (3, .int i16_3), (4, .int i16_4)], [.int u4, .int i16_4], M_16)) rfl ?_
      refine ml_if2 (S1 := (93, [(0, .ref a), (2, .int u4), (3, .int i16_3), (4, .int i16_4)], [], M_16)) (S2 := (22, [(0, .ref a), (2, .int u4), (3, .int i16_3), (4, .int i16_4)], [], M_16)) rfl rfl rfl (fun c_19 => ?_) (fun c_19 => ?_)
      · have c_19 : u4 ≤ i16_4 := of_decide_eq_true c_19
        refine ml_st (S' := (94, [(0, .ref a), (2, .int u4), (3, .int i16_3), (4, .int i16_4)], [.int 1], M_16)) rfl rfl rfl ?_
        exact ml_ret rfl (r_z (Or.inr rfl)) (⟨⟨_, rfl, Or.inr rfl⟩, hS_16⟩)
      · have c_19 : ¬ (u4 ≤ i16_4) := of_decide_eq_false c_19
        refine ml_st (S' := (23, [(0, .ref a), (2, .int u4), (3, .int i16_3), (4, .int i16_4)], [.ref a], M_16)) rfl rfl rfl ?_
        refine tg_ref (S' := (26, [(0, .ref a), (2, .int u4), (3, .int i16_3), (4, .int i16_4)], [.ref c], M_16)) rfl hS_16.1 hY0 (by decide) rfl rfl ?_
        refine tg_int rfl hS_16.1 hY1 (by decide) rfl (fun u5 g6 => ?_)
        show ml _ _ _ (29, [(0, .ref a), (2, .int u4), (3, .int i16_3), (4, .int i16_4)], [.int u5], M_16) _
        refine ml_st (S' := (31, [(0, .ref a), (2, .int u4), (3, .int i16_3), (4, .int i16_4)], [.int 50, .int u5], M_16)) rfl rfl rfl ?_
        have J_59 : ∀ (s59_0 : Int32), ml (mT g) d (mb_28 g).2 (59, [(0, .ref a), (2, .int u4), (3, .int i16_3), (4, .int i16_4)], [.int s59_0], M_16) (qZ g Y M) := by
          intro s59_0
          refine ml_st (S' := (61, [(5, .int s59_0), (0, .ref a), (2, .int u4), (3, .int i16_3), (4, .int i16_4)], [], M_16)) rfl rfl rfl ?_
          refine ml_blk 3 (S' := (65, [(5, .int s59_0), (0, .ref a), (2, .int u4), (3, .int i16_3), (4, .int i16_4)], [.int s59_0, .int i16_3, .ref a], M_16)) rfl ?_
          refine ml_if (S1 := (72, [(5, .int s59_0), (0, .ref a), (2, .int u4), (3, .int i16_3), (4, .int i16_4)], [.int i16_3, .ref a], M_16)) (S2 := (68, [(5, .int s59_0), (0, .ref a), (2, .int u4), (3, .int i16_3), (4, .int i16_4)], [.int i16_3, .ref a], M_16)) rfl rfl rfl (fun c_65 => ?_) (fun c_65 => ?_)
          · have c_65 : s59_0 = 0 := of_decide_eq_true c_65
            refine ml_st (S' := (73, [(0, .ref a), (2, .int u4), (3, .int i16_3), (4, .int i16_4)], [.int 0, .int i16_3, .ref a], M_16)) rfl rfl rfl ?_
            refine ml_call (a := [.ref a, .int i16_3, .int 0]) (rest := []) rfl (okc_t rfl rfl rfl hS_16.1 hY0 (by decide)) rfl rfl (tw_At_isNew hS_16.1 hY0 hY1 hY2 hY3 hY4 (by omega)) (fun v7 M8 h9 => ?_)
            obtain ⟨⟨u10, rfl, z11⟩, h9⟩ := h9
            have hS12 := hS_16.tr h9
            show ml _ _ _ (76, [(0, .ref a), (2, .int u4), (3, .int i16_3), (4, .int i16_4)], [.int u10], M8) _
            refine ml_if (S1 := (81, [(0, .ref a), (2, .int u4), (3, .int i16_3), (4, .int i16_4)], [], M8)) (S2 := (79, [(0, .ref a), (2, .int u4), (3, .int i16_3), (4, .int i16_4)], [], M8)) rfl rfl rfl (fun c_76 => ?_) (fun c_76 => ?_)
            · have c_76 : ¬ u10 = 0 := of_decide_eq_true c_76
              refine ml_blk 2 (S' := (83, [(0, .ref a), (2, .int u4), (3, .int i16_3), (4, .int i16_4)], [.int i16_3, .ref a], M8)) rfl ?_
              refine ml_call (a := [.ref a, .int i16_3]) (rest := []) rfl (okc_t rfl rfl rfl hS12.1 hY0 (by decide)) rfl rfl (tw_At_behind hS12.1 hY0 hY1 hY2 hY3 hY4 (by omega)) (fun v13 M14 h15 => ?_)
              obtain ⟨⟨u16, rfl⟩, h15⟩ := h15
              rw [h15]
              show ml _ _ _ (86, [(0, .ref a), (2, .int u4), (3, .int i16_3), (4, .int i16_4)], [.int u16], M8) _
              refine ml_st (S' := (87, [(3, .int u16), (0, .ref a), (2, .int u4), (4, .int i16_4)], [], M8)) rfl rfl rfl ?_
              refine ml_st (S' := (90, [(4, .int (i16_4 + 1)), (3, .int u16), (0, .ref a), (2, .int u4)], [], M8)) rfl rfl rfl ?_
              refine ml_st (S' := (16, [(0, .ref a), (2, .int u4), (3, .int u16), (4, .int (i16_4 + 1))], [], M8)) rfl rfl rfl ?_
              exact ih_16 u16 (i16_4 + 1) _ (loop_inc (Int32.not_le.mp c_19) hn_16) hS12
            · have c_76 : ¬ (¬ u10 = 0) := of_decide_eq_false c_76
              refine ml_st (S' := (80, [(0, .ref a), (2, .int u4), (3, .int i16_3), (4, .int i16_4)], [.int 0], M8)) rfl rfl rfl ?_
              exact ml_ret rfl (r_z (Or.inl rfl)) (⟨⟨_, rfl, Or.inl rfl⟩, hS12⟩)
          · have c_65 : ¬ (s59_0 = 0) := of_decide_eq_false c_65
            refine ml_st (S' := (69, [(5, .int s59_0), (0, .ref a), (2, .int u4), (3, .int i16_3), (4, .int i16_4)], [.int 4, .int i16_3, .ref a], M_16)) rfl rfl rfl ?_
            refine ml_st (S' := (73, [(0, .ref a), (2, .int u4), (3, .int i16_3), (4, .int i16_4)], [.int 4, .int i16_3, .ref a], M_16)) rfl rfl rfl ?_
            refine ml_call (a := [.ref a, .int i16_3, .int 4]) (rest := []) rfl (okc_t rfl rfl rfl hS_16.1 hY0 (by decide)) rfl rfl (tw_At_isNew hS_16.1 hY0 hY1 hY2 hY3 hY4 (by omega)) (fun v17 M18 h19 => ?_)
            obtain ⟨⟨u20, rfl, z21⟩, h19⟩ := h19
            have hS22 := hS_16.tr h19
            show ml _ _ _ (76, [(0, .ref a), (2, .int u4), (3, .int i16_3), (4, .int i16_4)], [.int u20], M18) _
            refine ml_if (S1 := (81, [(0, .ref a), (2, .int u4), (3, .int i16_3), (4, .int i16_4)], [], M18)) (S2 := (79, [(0, .ref a), (2, .int u4), (3, .int i16_3), (4, .int i16_4)], [], M18)) rfl rfl rfl (fun c_76 => ?_) (fun c_76 => ?_)
            · have c_76 : ¬ u20 = 0 := of_decide_eq_true c_76
              refine ml_blk 2 (S' := (83, [(0, .ref a), (2, .int u4), (3, .int i16_3), (4, .int i16_4)], [.int i16_3, .ref a], M18)) rfl ?_
              refine ml_call (a := [.ref a, .int i16_3]) (rest := []) rfl (okc_t rfl rfl rfl hS22.1 hY0 (by decide)) rfl rfl (tw_At_behind hS22.1 hY0 hY1 hY2 hY3 hY4 (by omega)) (fun v23 M24 h25 => ?_)
              obtain ⟨⟨u26, rfl⟩, h25⟩ := h25
              rw [h25]
              show ml _ _ _ (86, [(0, .ref a), (2, .int u4), (3, .int i16_3), (4, .int i16_4)], [.int u26], M18) _
              refine ml_st (S' := (87, [(3, .int u26), (0, .ref a), (2, .int u4), (4, .int i16_4)], [], M18)) rfl rfl rfl ?_
              refine ml_st (S' := (90, [(4, .int (i16_4 + 1)), (3, .int u26), (0, .ref a), (2, .int u4)], [], M18)) rfl rfl rfl ?_
              refine ml_st (S' := (16, [(0, .ref a), (2, .int u4), (3, .int u26), (4, .int (i16_4 + 1))], [], M18)) rfl rfl rfl ?_
              exact ih_16 u26 (i16_4 + 1) _ (loop_inc (Int32.not_le.mp c_19) hn_16) hS22
            · have c_76 : ¬ (¬ u20 = 0) := of_decide_eq_false c_76
              refine ml_st (S' := (80, [(0, .ref a), (2, .int u4), (3, .int i16_3), (4, .int i16_4)], [.int 0], M18)) rfl rfl rfl ?_
              exact ml_ret rfl (r_z (Or.inl rfl)) (⟨⟨_, rfl, Or.inl rfl⟩, hS22⟩)
        have J_58 : ml (mT g) d (mb_28 g).2 (58, [(0, .ref a), (2, .int u4), (3, .int i16_3), (4, .int i16_4)], [], M_16) (qZ g Y M) := by
          refine ml_st (S' := (59, [(0, .ref a), (2, .int u4), (3, .int i16_3), (4, .int i16_4)], [.int 0], M_16)) rfl rfl rfl ?_
          exact J_59 0
        refine ml_if2 (S1 := (58, [(0, .ref a), (2, .int u4), (3, .int i16_3), (4, .int i16_4)], [], M_16)) (S2 := (34, [(0, .ref a), (2, .int u4), (3, .int i16_3), (4, .int i16_4)], [], M_16)) rfl rfl rfl (fun c_31 => ?_) (fun c_31 => ?_)
        · have c_31 : u5 < 50 := of_decide_eq_true c_31
          exact J_58 
        · have c_31 : ¬ (u5 < 50) := of_decide_eq_false c_31
          refine ml_st (S' := (35, [(0, .ref a), (2, .int u4), (3, .int i16_3), (4, .int i16_4)], [.ref a], M_16)) rfl rfl rfl ?_
          refine tg_ref (S' := (38, [(0, .ref a), (2, .int u4), (3, .int i16_3), (4, .int i16_4)], [.ref p], M_16)) rfl hS_16.1 hY0 (by decide) rfl rfl ?_
          refine ml_st (S' := (39, [(0, .ref a), (2, .int u4), (3, .int i16_3), (4, .int i16_4)], [.ref a, .ref p], M_16)) rfl rfl rfl ?_
          refine tg_ref (S' := (42, [(0, .ref a), (2, .int u4), (3, .int i16_3), (4, .int i16_4)], [.ref b, .ref p], M_16)) rfl hS_16.1 hY0 (by decide) rfl rfl ?_
          refine ml_st (S' := (43, [(0, .ref a), (2, .int u4), (3, .int i16_3), (4, .int i16_4)], [.int i16_3, .ref b, .ref p], M_16)) rfl rfl rfl ?_
          refine ml_call (a := [.ref b, .int i16_3]) (rest := [.ref p]) rfl (okc_t rfl rfl rfl hS_16.1 hY2 (by decide)) rfl rfl (tq_u2 hS_16.1 hY2 (by omega)) (fun v27 M28 h29 => ?_)
          obtain ⟨⟨u30, rfl⟩, h29⟩ := h29
          rw [h29]
          show ml _ _ _ (46, [(0, .ref a), (2, .int u4), (3, .int i16_3), (4, .int i16_4)], [.int u30, .ref p], M_16) _
          refine ml_st (S' := (48, [(0, .ref a), (2, .int u4), (3, .int i16_3), (4, .int i16_4)], [.ref (g.2.1 10), .int u30, .ref p], M_16)) rfl rfl rfl ?_
          refine ml_call (a := [.ref p, .int u30, .ref (g.2.1 10)]) (rest := []) rfl (okc_t rfl rfl rfl hS_16.1 hY3 (by decide)) rfl rfl (tq_textIs (lk := 10) hS_16.1 hY3 (by decide) (by omega)) (fun v31 M32 h33 => ?_)
          obtain ⟨⟨x34, rfl, z35⟩, h33⟩ := h33
          rw [h33]
          show ml _ _ _ (51, [(0, .ref a), (2, .int u4), (3, .int i16_3), (4, .int i16_4)], [.int x34], M_16) _
          refine ml_if (S1 := (58, [(0, .ref a), (2, .int u4), (3, .int i16_3), (4, .int i16_4)], [], M_16)) (S2 := (54, [(0, .ref a), (2, .int u4), (3, .int i16_3), (4, .int i16_4)], [], M_16)) rfl rfl rfl (fun c_51 => ?_) (fun c_51 => ?_)
          · have c_51 : x34 = 0 := of_decide_eq_true c_51
            exact J_58 
          · have c_51 : ¬ (x34 = 0) := of_decide_eq_false c_51
            refine ml_st (S' := (55, [(0, .ref a), (2, .int u4), (3, .int i16_3), (4, .int i16_4)], [.int 1], M_16)) rfl rfl rfl ?_
            refine ml_st (S' := (59, [(0, .ref a), (2, .int u4), (3, .int i16_3), (4, .int i16_4)], [.int 1], M_16)) rfl rfl rfl ?_
            exact J_59 1
  exact L_16 _ (x1 + 2) 0 _ (Nat.le_refl _) hS
set_option maxHeartbeats 2000000 in
theorem tw_At_ofClass {g : xe_G} {M : mi_H} {Y : yT} {a c b p vd da n : Nat} {pp : List Nat}  (hW : WF g Y M) (hY0 : Y.1 a = some (0, [c, b, p, vd])) (hY1 : Y.1 c = some (3, [b, da, n])) (hY2 : Y.1 b = some (1, [da, n])) (hY3 : Y.1 p = some (7, pp)) (hY4 : Y.1 vd = some (10, [])) {d : Nat} (hd : 6 ≤ d) : mt (mT g) d 38 [.ref a] M (qZ g Y M) := by
  obtain ⟨d, rfl⟩ : ∃ e, d = e + 1 := ⟨d - 1, by omega⟩
  have hS : st g Y M M := st.rf hW
  refine mt_in (b := mb_38 g) rfl rfl ?_
  show ml (mT g) d (mb_38 g).2 (0, [(0, .ref a)], [], M) _
  refine ml_blk 2 (S' := (2, [(0, .ref a)], [.int 0, .ref a], M)) rfl ?_
  refine tp_put rfl hS hY0 (by decide) rfl (⟨_, rfl⟩) rfl rfl (fun M1 hS2 f3 => ?_)
  show ml _ _ _ (5, [(0, .ref a)], [], M1) _
  refine ml_st (S' := (6, [(0, .ref a)], [.ref a], M1)) rfl rfl rfl ?_
  refine tg_ref (S' := (9, [(0, .ref a)], [.ref c], M1)) rfl hS2.1 hY0 (by decide) rfl rfl ?_
  refine tg_int rfl hS2.1 hY1 (by decide) rfl (fun u4 g5 => ?_)
  show ml _ _ _ (12, [(0, .ref a)], [.int u4], M1) _
  refine ml_st (S' := (13, [(1, .int u4), (0, .ref a)], [], M1)) rfl rfl rfl ?_
  refine ml_st (S' := (14, [(1, .int u4), (0, .ref a)], [.int 0], M1)) rfl rfl rfl ?_
  refine ml_st (S' := (15, [(0, .ref a), (1, .int u4), (2, .int 0)], [], M1)) rfl rfl rfl ?_
  have L_15 : ∀ (n_15 : Nat) (i15_1 : Int32) (i15_2 : Int32) (M_15 : mi_H), (2147483648 - i15_2.toInt).toNat ≤ n_15 → st g Y M M_15 → ml (mT g) d (mb_38 g).2 (15, [(0, .ref a), (1, .int i15_1), (2, .int i15_2)], [], M_15) (qZ g Y M) := by
    intro n_15
    induction n_15 with
    | zero => intro i15_1 i15_2 M_15 hn; exact (loop_zero hn).elim
    | succ n_15 ih_15 =>
      intro i15_1 i15_2 M_15 hn_15 hS_15
      refine ml_blk 2 (S' := (17, [(0, .ref a), (1, .int i15_1), (2, .int i15_2)], [.ref a, .int i15_2], M_15)) rfl ?_
      refine tg_ref (S' := (20, [(0, .ref a), (1, .int i15_1), (2, .int i15_2)], [.ref c, .int i15_2], M_15)) rfl hS_15.1 hY0 (by decide) rfl rfl ?_
      refine tg_int rfl hS_15.1 hY1 (by decide) rfl (fun u6 g7 => ?_)
      show ml _ _ _ (23, [(0, .ref a), (1, .int i15_1), (2, .int i15_2)], [.int u6, .int i15_2], M_15) _
      refine ml_if2 (S1 := (132, [(0, .ref a), (1, .int i15_1), (2, .int i15_2)], [], M_15)) (S2 := (26, [(0, .ref a), (1, .int i15_1), (2, .int i15_2)], [], M_15)) rfl rfl rfl (fun c_23 => ?_) (fun c_23 => ?_)
      · have c_23 : u6 ≤ i15_2 := of_decide_eq_true c_23
        refine ml_st (S' := (133, [(0, .ref a), (1, .int i15_1), (2, .int i15_2)], [.ref a], M_15)) rfl rfl rfl ?_
        refine tg_ref (S' := (136, [(0, .ref a), (1, .int i15_1), (2, .int i15_2)], [.ref c], M_15)) rfl hS_15.1 hY0 (by decide) rfl rfl ?_
        refine ml_st (S' := (137, [(0, .ref a), (1, .int i15_1), (2, .int i15_2)], [.ref a, .ref c], M_15)) rfl rfl rfl ?_
        refine tg_int rfl hS_15.1 hY0 (by decide) rfl (fun u8 g9 => ?_)
        show ml _ _ _ (140, [(0, .ref a), (1, .int i15_1), (2, .int i15_2)], [.int u8, .ref c], M_15) _
        refine ml_call (a := [.int u8]) (rest := [.ref c]) rfl (rfl) rfl rfl (tw_J_bitCount hS_15.1  (by omega)) (fun v10 M11 h12 => ?_)
        obtain ⟨⟨u13, rfl⟩, h12⟩ := h12
        rw [h12]
        show ml _ _ _ (143, [(0, .ref a), (1, .int i15_1), (2, .int i15_2)], [.int u13, .ref c], M_15) _
        refine tp_put rfl hS_15 hY1 (by decide) rfl (⟨_, rfl⟩) rfl rfl (fun M14 hS15 f16 => ?_)
        show ml _ _ _ (146, [(0, .ref a), (1, .int i15_1), (2, .int i15_2)], [], M14) _
        refine ml_st (S' := (147, [(0, .ref a), (1, .int i15_1), (2, .int i15_2)], [.int 1], M14)) rfl rfl rfl ?_
        exact ml_ret rfl (r_z (Or.inr rfl)) (⟨⟨_, rfl, Or.inr rfl⟩, hS15⟩)
      · have c_23 : ¬ (u6 ≤ i15_2) := of_decide_eq_false c_23
        refine ml_blk 2 (S' := (28, [(0, .ref a), (1, .int i15_1), (2, .int i15_2)], [.ref a, .ref a], M_15)) rfl ?_
        refine tg_ref (S' := (31, [(0, .ref a), (1, .int i15_1), (2, .int i15_2)], [.ref b, .ref a], M_15)) rfl hS_15.1 hY0 (by decide) rfl rfl ?_
        refine ml_st (S' := (32, [(0, .ref a), (1, .int i15_1), (2, .int i15_2)], [.int i15_1, .ref b, .ref a], M_15)) rfl rfl rfl ?_
        refine ml_call (a := [.ref b, .int i15_1]) (rest := [.ref a]) rfl (okc_t rfl rfl rfl hS_15.1 hY2 (by decide)) rfl rfl (tq_u2 hS_15.1 hY2 (by omega)) (fun v17 M18 h19 => ?_)
        obtain ⟨⟨u20, rfl⟩, h19⟩ := h19
        rw [h19]
        show ml _ _ _ (35, [(0, .ref a), (1, .int i15_1), (2, .int i15_2)], [.int u20, .ref a], M_15) _
        refine ml_call (a := [.ref a, .int u20]) (rest := []) rfl (okc_t rfl rfl rfl hS_15.1 hY0 (by decide)) rfl rfl (tw_At_classKind hS_15.1 hY0 hY1 hY2 hY3 hY4 (by omega)) (fun v21 M22 h23 => ?_)
        obtain ⟨⟨u24, rfl⟩, h23⟩ := h23
        rw [h23]
        show ml _ _ _ (38, [(0, .ref a), (1, .int i15_1), (2, .int i15_2)], [.int u24], M_15) _
        refine ml_st (S' := (39, [(3, .int u24), (0, .ref a), (1, .int i15_1), (2, .int i15_2)], [], M_15)) rfl rfl rfl ?_
        refine ml_blk 3 (S' := (42, [(3, .int u24), (0, .ref a), (1, .int i15_1), (2, .int i15_2)], [.int u24, .int i15_1, .ref a], M_15)) rfl ?_
        refine ml_call (a := [.ref a, .int i15_1, .int u24]) (rest := []) rfl (okc_t rfl rfl rfl hS_15.1 hY0 (by decide)) rfl rfl (tw_At_isNew hS_15.1 hY0 hY1 hY2 hY3 hY4 (by omega)) (fun v25 M26 h27 => ?_)
        obtain ⟨⟨u28, rfl, z29⟩, h27⟩ := h27
        have hS30 := hS_15.tr h27
        show ml _ _ _ (45, [(3, .int u24), (0, .ref a), (1, .int i15_1), (2, .int i15_2)], [.int u28], M26) _
        refine ml_if (S1 := (50, [(3, .int u24), (0, .ref a), (1, .int i15_1), (2, .int i15_2)], [], M26)) (S2 := (48, [(3, .int u24), (0, .ref a), (1, .int i15_1), (2, .int i15_2)], [], M26)) rfl rfl rfl (fun c_45 => ?_) (fun c_45 => ?_)
        · have c_45 : ¬ u28 = 0 := of_decide_eq_true c_45
          refine ml_st (S' := (51, [(3, .int u24), (0, .ref a), (1, .int i15_1), (2, .int i15_2)], [.int u24], M26)) rfl rfl rfl ?_
          have J_87 : ml (mT g) d (mb_38 g).2 (87, [(0, .ref a), (1, .int i15_1), (2, .int i15_2), (3, .int u24)], [], M26) (qZ g Y M) := by
            refine ml_blk 3 (S' := (90, [(0, .ref a), (1, .int i15_1), (2, .int i15_2), (3, .int u24)], [.int i15_1, .int u24, .ref a], M26)) rfl ?_
            refine ml_call (a := [.ref a, .int u24, .int i15_1]) (rest := []) rfl (okc_t rfl rfl rfl hS30.1 hY0 (by decide)) rfl rfl (tw_At_brokenRule hS30.1 hY0 hY1 hY2 hY3 hY4 (by omega)) (fun v31 M32 h33 => ?_)
            obtain ⟨⟨u34, rfl⟩, h33⟩ := h33
            have hS35 := hS30.tr h33
            show ml _ _ _ (93, [(0, .ref a), (1, .int i15_1), (2, .int i15_2), (3, .int u24)], [.int u34], M32) _
            refine ml_st (S' := (95, [(4, .int u34), (0, .ref a), (1, .int i15_1), (2, .int i15_2), (3, .int u24)], [], M32)) rfl rfl rfl ?_
            refine ml_st (S' := (97, [(4, .int u34), (0, .ref a), (1, .int i15_1), (2, .int i15_2), (3, .int u24)], [.int u34], M32)) rfl rfl rfl ?_
            refine ml_if (S1 := (120, [(4, .int u34), (0, .ref a), (1, .int i15_1), (2, .int i15_2), (3, .int u24)], [], M32)) (S2 := (100, [(4, .int u34), (0, .ref a), (1, .int i15_1), (2, .int i15_2), (3, .int u24)], [], M32)) rfl rfl rfl (fun c_97 => ?_) (fun c_97 => ?_)
            · have c_97 : u34 = 0 := of_decide_eq_true c_97
              refine ml_blk 2 (S' := (122, [(4, .int u34), (0, .ref a), (1, .int i15_1), (2, .int i15_2), (3, .int u24)], [.int i15_1, .ref a], M32)) rfl ?_
              refine ml_call (a := [.ref a, .int i15_1]) (rest := []) rfl (okc_t rfl rfl rfl hS35.1 hY0 (by decide)) rfl rfl (tw_At_behind hS35.1 hY0 hY1 hY2 hY3 hY4 (by omega)) (fun v36 M37 h38 => ?_)
              obtain ⟨⟨u39, rfl⟩, h38⟩ := h38
              rw [h38]
              show ml _ _ _ (125, [(4, .int u34), (0, .ref a), (1, .int i15_1), (2, .int i15_2), (3, .int u24)], [.int u39], M32) _
              refine ml_st (S' := (126, [(1, .int u39), (4, .int u34), (0, .ref a), (2, .int i15_2), (3, .int u24)], [], M32)) rfl rfl rfl ?_
              refine ml_st (S' := (129, [(2, .int (i15_2 + 1)), (1, .int u39), (4, .int u34), (0, .ref a), (3, .int u24)], [], M32)) rfl rfl rfl ?_
              refine ml_st (S' := (15, [(0, .ref a), (1, .int u39), (2, .int (i15_2 + 1))], [], M32)) rfl rfl rfl ?_
              exact ih_15 u39 (i15_2 + 1) _ (loop_inc (Int32.not_le.mp c_23) hn_15) hS35
            · have c_97 : ¬ (u34 = 0) := of_decide_eq_false c_97
              refine ml_st (S' := (102, [(4, .int u34), (0, .ref a), (1, .int i15_1), (2, .int i15_2), (3, .int u24)], [.int u34], M32)) rfl rfl rfl ?_
              refine ml_if (S1 := (109, [(4, .int u34), (0, .ref a), (1, .int i15_1), (2, .int i15_2), (3, .int u24)], [], M32)) (S2 := (105, [(4, .int u34), (0, .ref a), (1, .int i15_1), (2, .int i15_2), (3, .int u24)], [], M32)) rfl rfl rfl (fun c_102 => ?_) (fun c_102 => ?_)
              · have c_102 : 0 ≤ u34 := of_decide_eq_true c_102
                refine ml_st (S' := (110, [(4, .int u34), (0, .ref a), (1, .int i15_1), (2, .int i15_2), (3, .int u24)], [.ref a], M32)) rfl rfl rfl ?_
                refine tg_ref (S' := (113, [(4, .int u34), (0, .ref a), (1, .int i15_1), (2, .int i15_2), (3, .int u24)], [.ref vd], M32)) rfl hS35.1 hY0 (by decide) rfl rfl ?_
                refine ml_blk 2 (S' := (116, [(4, .int u34), (0, .ref a), (1, .int i15_1), (2, .int i15_2), (3, .int u24)], [.int i15_1, .int u34, .ref vd], M32)) rfl ?_
                refine ml_call (a := [.ref vd, .int u34, .int i15_1]) (rest := []) rfl (okc_t rfl rfl rfl hS35.1 hY4 (by decide)) rfl rfl (tw_Ve_wrong hS35.1 hY4 (by omega)) (fun v40 M41 h42 => ?_)
                obtain ⟨rfl, h42⟩ := h42
                have hS44 := hS35.tr h42.1
                show ml _ _ _ (119, [], [.int 0], M41) _
                exact ml_ret rfl (r_z (Or.inl rfl)) (⟨⟨_, rfl, Or.inl rfl⟩, hS44⟩)
              · have c_102 : ¬ (0 ≤ u34) := of_decide_eq_false c_102
                refine ml_st (S' := (106, [(4, .int u34), (0, .ref a), (1, .int i15_1), (2, .int i15_2), (3, .int u24)], [.int 0], M32)) rfl rfl rfl ?_
                refine ml_st (S' := (119, [], [.int 0], M32)) rfl rfl rfl ?_
                exact ml_ret rfl (r_z (Or.inl rfl)) (⟨⟨_, rfl, Or.inl rfl⟩, hS35⟩)
          refine ml_if (S1 := (87, [(0, .ref a), (1, .int i15_1), (2, .int i15_2), (3, .int u24)], [], M26)) (S2 := (54, [(3, .int u24), (0, .ref a), (1, .int i15_1), (2, .int i15_2)], [], M26)) rfl rfl rfl (fun c_51 => ?_) (fun c_51 => ?_)
          · have c_51 : u24 = 0 := of_decide_eq_true c_51
            exact J_87 
          · have c_51 : ¬ (u24 = 0) := of_decide_eq_false c_51
            refine ml_blk 3 (S' := (57, [(3, .int u24), (0, .ref a), (1, .int i15_1), (2, .int i15_2)], [.int i15_1, .int u24, .ref a], M26)) rfl ?_
            refine ml_blk 3 (S' := (61, [(3, .int u24), (0, .ref a), (1, .int i15_1), (2, .int i15_2)], [.ref a, .int (i15_1 + 6), .int u24, .ref a], M26)) rfl ?_
            refine ml_st (S' := (62, [(3, .int u24), (0, .ref a), (1, .int i15_1), (2, .int i15_2)], [.int i15_1, .ref a, .int (i15_1 + 6), .int u24, .ref a], M26)) rfl rfl rfl ?_
            refine ml_call (a := [.ref a, .int i15_1]) (rest := [.int (i15_1 + 6), .int u24, .ref a]) rfl (okc_t rfl rfl rfl hS30.1 hY0 (by decide)) rfl rfl (tw_At_behind hS30.1 hY0 hY1 hY2 hY3 hY4 (by omega)) (fun v45 M46 h47 => ?_)
            obtain ⟨⟨u48, rfl⟩, h47⟩ := h47
            rw [h47]
            show ml _ _ _ (65, [(3, .int u24), (0, .ref a), (1, .int i15_1), (2, .int i15_2)], [.int u48, .int (i15_1 + 6), .int u24, .ref a], M26) _
            refine ml_call (a := [.ref a, .int u24, .int (i15_1 + 6), .int u48]) (rest := []) rfl (okc_t rfl rfl rfl hS30.1 hY0 (by decide)) rfl rfl (tw_At_formEnd hS30.1 hY0 hY1 hY2 hY3 hY4 (by omega)) (fun v49 M50 h51 => ?_)
            obtain ⟨⟨u52, rfl⟩, h51⟩ := h51
            rw [h51]
            show ml _ _ _ (68, [(3, .int u24), (0, .ref a), (1, .int i15_1), (2, .int i15_2)], [.int u52], M26) _
            refine ml_blk 2 (S' := (70, [(3, .int u24), (0, .ref a), (1, .int i15_1), (2, .int i15_2)], [.int i15_1, .ref a, .int u52], M26)) rfl ?_
            refine ml_call (a := [.ref a, .int i15_1]) (rest := [.int u52]) rfl (okc_t rfl rfl rfl hS30.1 hY0 (by decide)) rfl rfl (tw_At_behind hS30.1 hY0 hY1 hY2 hY3 hY4 (by omega)) (fun v53 M54 h55 => ?_)
            obtain ⟨⟨u56, rfl⟩, h55⟩ := h55
            rw [h55]
            show ml _ _ _ (73, [(3, .int u24), (0, .ref a), (1, .int i15_1), (2, .int i15_2)], [.int u56, .int u52], M26) _
            refine ml_if2 (S1 := (87, [(0, .ref a), (1, .int i15_1), (2, .int i15_2), (3, .int u24)], [], M26)) (S2 := (76, [(3, .int u24), (0, .ref a), (1, .int i15_1), (2, .int i15_2)], [], M26)) rfl rfl rfl (fun c_73 => ?_) (fun c_73 => ?_)
            · have c_73 : u52 = u56 := of_decide_eq_true c_73
              exact J_87 
            · have c_73 : ¬ (u52 = u56) := of_decide_eq_false c_73
              refine ml_st (S' := (77, [(3, .int u24), (0, .ref a), (1, .int i15_1), (2, .int i15_2)], [.ref a], M26)) rfl rfl rfl ?_
              refine tg_ref (S' := (80, [(3, .int u24), (0, .ref a), (1, .int i15_1), (2, .int i15_2)], [.ref vd], M26)) rfl hS30.1 hY0 (by decide) rfl rfl ?_
              refine ml_blk 2 (S' := (83, [(3, .int u24), (0, .ref a), (1, .int i15_1), (2, .int i15_2)], [.int i15_1, .int 30, .ref vd], M26)) rfl ?_
              refine ml_call (a := [.ref vd, .int 30, .int i15_1]) (rest := []) rfl (okc_t rfl rfl rfl hS30.1 hY4 (by decide)) rfl rfl (tw_Ve_wrong hS30.1 hY4 (by omega)) (fun v57 M58 h59 => ?_)
              obtain ⟨rfl, h59⟩ := h59
              have hS61 := hS30.tr h59.1
              show ml _ _ _ (86, [(3, .int u24), (0, .ref a), (1, .int i15_1), (2, .int i15_2)], [.int 0], M58) _
              exact ml_ret rfl (r_z (Or.inl rfl)) (⟨⟨_, rfl, Or.inl rfl⟩, hS61⟩)
        · have c_45 : ¬ (¬ u28 = 0) := of_decide_eq_false c_45
          refine ml_st (S' := (49, [(3, .int u24), (0, .ref a), (1, .int i15_1), (2, .int i15_2)], [.int 0], M26)) rfl rfl rfl ?_
          exact ml_ret rfl (r_z (Or.inl rfl)) (⟨⟨_, rfl, Or.inl rfl⟩, hS30⟩)
  exact L_15 _ u4 0 _ (Nat.le_refl _) hS2
set_option maxHeartbeats 2000000 in
theorem tw_At_ofField {g : xe_G} {M : mi_H} {Y : yT} {a c b p vd da n me : Nat} {pp : List Nat}  (hW : WF g Y M) (hY0 : Y.1 a = some (0, [c, b, p, vd])) (hY1 : Y.1 c = some (3, [b, da, n])) (hY2 : Y.1 b = some (1, [da, n])) (hY3 : Y.1 p = some (7, pp)) (hY4 : Y.1 vd = some (10, [])) (hY5 : Y.1 me = some (6, [da, n])) {d : Nat} (hd : 5 ≤ d) : mt (mT g) d 39 [.ref a, .ref me] M (qZ g Y M) := by
  obtain ⟨d, rfl⟩ : ∃ e, d = e + 1 := ⟨d - 1, by omega⟩
  have hS : st g Y M M := st.rf hW
  refine mt_in (b := mb_39 g) rfl rfl ?_
  show ml (mT g) d (mb_39 g).2 (0, [(0, .ref a), (1, .ref me)], [], M) _
  refine ml_blk 2 (S' := (2, [(0, .ref a), (1, .ref me)], [.int 0, .ref a], M)) rfl ?_
  refine tp_put rfl hS hY0 (by decide) rfl (⟨_, rfl⟩) rfl rfl (fun M1 hS2 f3 => ?_)
  show ml _ _ _ (5, [(0, .ref a), (1, .ref me)], [], M1) _
  refine ml_st (S' := (6, [(0, .ref a), (1, .ref me)], [.ref me], M1)) rfl rfl rfl ?_
  refine tg_int rfl hS2.1 hY5 (by decide) rfl (fun u4 g5 => ?_)
  show ml _ _ _ (9, [(0, .ref a), (1, .ref me)], [.int u4], M1) _
  refine ml_st (S' := (10, [(2, .int u4), (0, .ref a), (1, .ref me)], [], M1)) rfl rfl rfl ?_
  refine ml_st (S' := (11, [(2, .int u4), (0, .ref a), (1, .ref me)], [.int 0], M1)) rfl rfl rfl ?_
  refine ml_st (S' := (12, [(0, .ref a), (1, .ref me), (2, .int u4), (3, .int 0)], [], M1)) rfl rfl rfl ?_
  have L_12 : ∀ (n_12 : Nat) (i12_2 : Int32) (i12_3 : Int32) (M_12 : mi_H), (2147483648 - i12_3.toInt).toNat ≤ n_12 → st g Y M M_12 → ml (mT g) d (mb_39 g).2 (12, [(0, .ref a), (1, .ref me), (2, .int i12_2), (3, .int i12_3)], [], M_12) (qZ g Y M) := by
    intro n_12
    induction n_12 with
    | zero => intro i12_2 i12_3 M_12 hn; exact (loop_zero hn).elim
    | succ n_12 ih_12 =>
      intro i12_2 i12_3 M_12 hn_12 hS_12
      refine ml_blk 2 (S' := (14, [(0, .ref a), (1, .ref me), (2, .int i12_2), (3, .int i12_3)], [.ref me, .int i12_3], M_12)) rfl ?_
      refine tg_int rfl hS_12.1 hY5 (by decide) rfl (fun u6 g7 => ?_)
      show ml _ _ _ (17, [(0, .ref a), (1, .ref me), (2, .int i12_2), (3, .int i12_3)], [.int u6, .int i12_3], M_12) _
      refine ml_if2 (S1 := (173, [(0, .ref a), (1, .ref me), (2, .int i12_2), (3, .int i12_3)], [], M_12)) (S2 := (20, [(0, .ref a), (1, .ref me), (2, .int i12_2), (3, .int i12_3)], [], M_12)) rfl rfl rfl (fun c_17 => ?_) (fun c_17 => ?_)
      · have c_17 : u6 ≤ i12_3 := of_decide_eq_true c_17
        refine ml_blk 2 (S' := (175, [(0, .ref a), (1, .ref me), (2, .int i12_2), (3, .int i12_3)], [.ref a, .ref me], M_12)) rfl ?_
        refine tg_int rfl hS_12.1 hY0 (by decide) rfl (fun u8 g9 => ?_)
        show ml _ _ _ (178, [(0, .ref a), (1, .ref me), (2, .int i12_2), (3, .int i12_3)], [.int u8, .ref me], M_12) _
        refine ml_call (a := [.int u8]) (rest := [.ref me]) rfl (rfl) rfl rfl (tw_J_bitCount hS_12.1  (by omega)) (fun v10 M11 h12 => ?_)
        obtain ⟨⟨u13, rfl⟩, h12⟩ := h12
        rw [h12]
        show ml _ _ _ (181, [(0, .ref a), (1, .ref me), (2, .int i12_2), (3, .int i12_3)], [.int u13, .ref me], M_12) _
        refine tp_put rfl hS_12 hY5 (by decide) rfl (⟨_, rfl⟩) rfl rfl (fun M14 hS15 f16 => ?_)
        show ml _ _ _ (184, [(0, .ref a), (1, .ref me), (2, .int i12_2), (3, .int i12_3)], [], M14) _
        refine ml_st (S' := (185, [(0, .ref a), (1, .ref me), (2, .int i12_2), (3, .int i12_3)], [.int 1], M14)) rfl rfl rfl ?_
        exact ml_ret rfl (r_z (Or.inr rfl)) (⟨⟨_, rfl, Or.inr rfl⟩, hS15⟩)
      · have c_17 : ¬ (u6 ≤ i12_3) := of_decide_eq_false c_17
        refine ml_st (S' := (21, [(0, .ref a), (1, .ref me), (2, .int i12_2), (3, .int i12_3)], [.ref a], M_12)) rfl rfl rfl ?_
        refine tg_ref (S' := (24, [(0, .ref a), (1, .ref me), (2, .int i12_2), (3, .int i12_3)], [.ref p], M_12)) rfl hS_12.1 hY0 (by decide) rfl rfl ?_
        refine ml_st (S' := (25, [(0, .ref a), (1, .ref me), (2, .int i12_2), (3, .int i12_3)], [.ref a, .ref p], M_12)) rfl rfl rfl ?_
        refine tg_ref (S' := (28, [(0, .ref a), (1, .ref me), (2, .int i12_2), (3, .int i12_3)], [.ref b, .ref p], M_12)) rfl hS_12.1 hY0 (by decide) rfl rfl ?_
        refine ml_st (S' := (29, [(0, .ref a), (1, .ref me), (2, .int i12_2), (3, .int i12_3)], [.int i12_2, .ref b, .ref p], M_12)) rfl rfl rfl ?_
        refine ml_call (a := [.ref b, .int i12_2]) (rest := [.ref p]) rfl (okc_t rfl rfl rfl hS_12.1 hY2 (by decide)) rfl rfl (tq_u2 hS_12.1 hY2 (by omega)) (fun v17 M18 h19 => ?_)
        obtain ⟨⟨u20, rfl⟩, h19⟩ := h19
        rw [h19]
        show ml _ _ _ (32, [(0, .ref a), (1, .ref me), (2, .int i12_2), (3, .int i12_3)], [.int u20, .ref p], M_12) _
        refine ml_st (S' := (34, [(0, .ref a), (1, .ref me), (2, .int i12_2), (3, .int i12_3)], [.ref (g.2.1 0), .int u20, .ref p], M_12)) rfl rfl rfl ?_
        refine ml_call (a := [.ref p, .int u20, .ref (g.2.1 0)]) (rest := []) rfl (okc_t rfl rfl rfl hS_12.1 hY3 (by decide)) rfl rfl (tq_textIs (lk := 0) hS_12.1 hY3 (by decide) (by omega)) (fun v21 M22 h23 => ?_)
        obtain ⟨⟨x24, rfl, z25⟩, h23⟩ := h23
        rw [h23]
        show ml _ _ _ (37, [(0, .ref a), (1, .ref me), (2, .int i12_2), (3, .int i12_3)], [.int x24], M_12) _
        have J_45 : ∀ (s45_0 : Int32), ml (mT g) d (mb_39 g).2 (45, [(0, .ref a), (1, .ref me), (2, .int i12_2), (3, .int i12_3)], [.int s45_0], M_12) (qZ g Y M) := by
          intro s45_0
          refine ml_st (S' := (47, [(4, .int s45_0), (0, .ref a), (1, .ref me), (2, .int i12_2), (3, .int i12_3)], [], M_12)) rfl rfl rfl ?_
          refine ml_blk 3 (S' := (51, [(4, .int s45_0), (0, .ref a), (1, .ref me), (2, .int i12_2), (3, .int i12_3)], [.int s45_0, .int i12_2, .ref a], M_12)) rfl ?_
          refine ml_call (a := [.ref a, .int i12_2, .int s45_0]) (rest := []) rfl (okc_t rfl rfl rfl hS_12.1 hY0 (by decide)) rfl rfl (tw_At_isNew hS_12.1 hY0 hY1 hY2 hY3 hY4 (by omega)) (fun v26 M27 h28 => ?_)
          obtain ⟨⟨u29, rfl, z30⟩, h28⟩ := h28
          have hS31 := hS_12.tr h28
          show ml _ _ _ (54, [(4, .int s45_0), (0, .ref a), (1, .ref me), (2, .int i12_2), (3, .int i12_3)], [.int u29], M27) _
          refine ml_if (S1 := (59, [(4, .int s45_0), (0, .ref a), (1, .ref me), (2, .int i12_2), (3, .int i12_3)], [], M27)) (S2 := (57, [(4, .int s45_0), (0, .ref a), (1, .ref me), (2, .int i12_2), (3, .int i12_3)], [], M27)) rfl rfl rfl (fun c_54 => ?_) (fun c_54 => ?_)
          · have c_54 : ¬ u29 = 0 := of_decide_eq_true c_54
            refine ml_st (S' := (61, [(4, .int s45_0), (0, .ref a), (1, .ref me), (2, .int i12_2), (3, .int i12_3)], [.int s45_0], M27)) rfl rfl rfl ?_
            have J_98 : ml (mT g) d (mb_39 g).2 (98, [(0, .ref a), (1, .ref me), (2, .int i12_2), (3, .int i12_3), (4, .int s45_0)], [], M27) (qZ g Y M) := by
              refine ml_blk 2 (S' := (101, [(0, .ref a), (1, .ref me), (2, .int i12_2), (3, .int i12_3), (4, .int s45_0)], [.int 1, .int s45_0], M27)) rfl ?_
              refine ml_if2 (S1 := (161, [(0, .ref a), (1, .ref me), (2, .int i12_2), (3, .int i12_3)], [], M27)) (S2 := (104, [(0, .ref a), (1, .ref me), (2, .int i12_2), (3, .int i12_3), (4, .int s45_0)], [], M27)) rfl rfl rfl (fun c_101 => ?_) (fun c_101 => ?_)
              · have c_101 : ¬ s45_0 = 1 := of_decide_eq_true c_101
                refine ml_blk 2 (S' := (163, [(0, .ref a), (1, .ref me), (2, .int i12_2), (3, .int i12_3)], [.int i12_2, .ref a], M27)) rfl ?_
                refine ml_call (a := [.ref a, .int i12_2]) (rest := []) rfl (okc_t rfl rfl rfl hS31.1 hY0 (by decide)) rfl rfl (tw_At_behind hS31.1 hY0 hY1 hY2 hY3 hY4 (by omega)) (fun v32 M33 h34 => ?_)
                obtain ⟨⟨u35, rfl⟩, h34⟩ := h34
                rw [h34]
                show ml _ _ _ (166, [(0, .ref a), (1, .ref me), (2, .int i12_2), (3, .int i12_3)], [.int u35], M27) _
                refine ml_st (S' := (167, [(2, .int u35), (0, .ref a), (1, .ref me), (3, .int i12_3)], [], M27)) rfl rfl rfl ?_
                refine ml_st (S' := (170, [(3, .int (i12_3 + 1)), (2, .int u35), (0, .ref a), (1, .ref me)], [], M27)) rfl rfl rfl ?_
                refine ml_st (S' := (12, [(0, .ref a), (1, .ref me), (2, .int u35), (3, .int (i12_3 + 1))], [], M27)) rfl rfl rfl ?_
                exact ih_12 u35 (i12_3 + 1) _ (loop_inc (Int32.not_le.mp c_17) hn_12) hS31
              · have c_101 : ¬ (¬ s45_0 = 1) := of_decide_eq_false c_101
                refine ml_blk 2 (S' := (107, [(0, .ref a), (1, .ref me), (2, .int i12_2), (3, .int i12_3), (4, .int s45_0)], [.int 8, .ref me], M27)) rfl ?_
                refine ml_call (a := [.ref me, .int 8]) (rest := []) rfl (okc_t rfl rfl rfl hS31.1 hY5 (by decide)) rfl rfl (tw_Me_has hS31.1 hY5 (by omega)) (fun v36 M37 h38 => ?_)
                obtain ⟨⟨u39, rfl, z40⟩, h38⟩ := h38
                rw [h38]
                show ml _ _ _ (110, [(0, .ref a), (1, .ref me), (2, .int i12_2), (3, .int i12_3), (4, .int s45_0)], [.int u39], M27) _
                refine ml_if (S1 := (161, [(0, .ref a), (1, .ref me), (2, .int i12_2), (3, .int i12_3)], [], M27)) (S2 := (113, [(0, .ref a), (1, .ref me), (2, .int i12_2), (3, .int i12_3), (4, .int s45_0)], [], M27)) rfl rfl rfl (fun c_110 => ?_) (fun c_110 => ?_)
                · have c_110 : u39 = 0 := of_decide_eq_true c_110
                  refine ml_blk 2 (S' := (163, [(0, .ref a), (1, .ref me), (2, .int i12_2), (3, .int i12_3)], [.int i12_2, .ref a], M27)) rfl ?_
                  refine ml_call (a := [.ref a, .int i12_2]) (rest := []) rfl (okc_t rfl rfl rfl hS31.1 hY0 (by decide)) rfl rfl (tw_At_behind hS31.1 hY0 hY1 hY2 hY3 hY4 (by omega)) (fun v41 M42 h43 => ?_)
                  obtain ⟨⟨u44, rfl⟩, h43⟩ := h43
                  rw [h43]
                  show ml _ _ _ (166, [(0, .ref a), (1, .ref me), (2, .int i12_2), (3, .int i12_3)], [.int u44], M27) _
                  refine ml_st (S' := (167, [(2, .int u44), (0, .ref a), (1, .ref me), (3, .int i12_3)], [], M27)) rfl rfl rfl ?_
                  refine ml_st (S' := (170, [(3, .int (i12_3 + 1)), (2, .int u44), (0, .ref a), (1, .ref me)], [], M27)) rfl rfl rfl ?_
                  refine ml_st (S' := (12, [(0, .ref a), (1, .ref me), (2, .int u44), (3, .int (i12_3 + 1))], [], M27)) rfl rfl rfl ?_
                  exact ih_12 u44 (i12_3 + 1) _ (loop_inc (Int32.not_le.mp c_17) hn_12) hS31
                · have c_110 : ¬ (u39 = 0) := of_decide_eq_false c_110
                  refine ml_blk 2 (S' := (115, [(0, .ref a), (1, .ref me), (2, .int i12_2), (3, .int i12_3), (4, .int s45_0)], [.ref a, .ref me], M27)) rfl ?_
                  refine tg_ref (S' := (118, [(0, .ref a), (1, .ref me), (2, .int i12_2), (3, .int i12_3), (4, .int s45_0)], [.ref b, .ref me], M27)) rfl hS31.1 hY0 (by decide) rfl rfl ?_
                  refine ml_blk 3 (S' := (122, [(0, .ref a), (1, .ref me), (2, .int i12_2), (3, .int i12_3), (4, .int s45_0)], [.int (i12_2 + 6), .ref b, .ref me], M27)) rfl ?_
                  refine ml_call (a := [.ref b, .int (i12_2 + 6)]) (rest := [.ref me]) rfl (okc_t rfl rfl rfl hS31.1 hY2 (by decide)) rfl rfl (tq_u2 hS31.1 hY2 (by omega)) (fun v45 M46 h47 => ?_)
                  obtain ⟨⟨u48, rfl⟩, h47⟩ := h47
                  rw [h47]
                  show ml _ _ _ (125, [(0, .ref a), (1, .ref me), (2, .int i12_2), (3, .int i12_3), (4, .int s45_0)], [.int u48, .ref me], M27) _
                  refine tp_put rfl hS31 hY5 (by decide) rfl (⟨_, rfl⟩) rfl rfl (fun M49 hS50 f51 => ?_)
                  show ml _ _ _ (128, [(0, .ref a), (1, .ref me), (2, .int i12_2), (3, .int i12_3), (4, .int s45_0)], [], M49) _
                  refine ml_st (S' := (129, [(0, .ref a), (1, .ref me), (2, .int i12_2), (3, .int i12_3), (4, .int s45_0)], [.ref a], M49)) rfl rfl rfl ?_
                  refine tg_ref (S' := (132, [(0, .ref a), (1, .ref me), (2, .int i12_2), (3, .int i12_3), (4, .int s45_0)], [.ref p], M49)) rfl hS50.1 hY0 (by decide) rfl rfl ?_
                  refine ml_st (S' := (133, [(0, .ref a), (1, .ref me), (2, .int i12_2), (3, .int i12_3), (4, .int s45_0)], [.ref me, .ref p], M49)) rfl rfl rfl ?_
                  refine ml_get (S' := (136, [(0, .ref a), (1, .ref me), (2, .int i12_2), (3, .int i12_3), (4, .int s45_0)], [.int u48, .ref p], M49)) rfl f51.2.2.1 rfl ?_
                  refine ml_call (a := [.ref p, .int u48]) (rest := []) rfl (okc_t rfl rfl rfl hS50.1 hY3 (by decide)) rfl rfl (tq_tagOf hS50.1 hY3 (by omega)) (fun v52 M53 h54 => ?_)
                  obtain ⟨⟨u55, rfl⟩, h54⟩ := h54
                  rw [h54]
                  show ml _ _ _ (139, [(0, .ref a), (1, .ref me), (2, .int i12_2), (3, .int i12_3), (4, .int s45_0)], [.int u55], M49) _
                  refine ml_blk 2 (S' := (141, [(0, .ref a), (1, .ref me), (2, .int i12_2), (3, .int i12_3), (4, .int s45_0)], [.ref me, .ref a, .int u55], M49)) rfl ?_
                  refine tg_int rfl hS50.1 hY5 (by decide) rfl (fun u56 g57 => ?_)
                  show ml _ _ _ (144, [(0, .ref a), (1, .ref me), (2, .int i12_2), (3, .int i12_3), (4, .int s45_0)], [.int u56, .ref a, .int u55], M49) _
                  refine ml_call (a := [.ref a, .int u56]) (rest := [.int u55]) rfl (okc_t rfl rfl rfl hS50.1 hY0 (by decide)) rfl rfl (tw_At_constantTag hS50.1 hY0 hY1 hY2 hY3 hY4 (by omega)) (fun v58 M59 h60 => ?_)
                  obtain ⟨⟨u61, rfl⟩, h60⟩ := h60
                  rw [h60]
                  show ml _ _ _ (147, [(0, .ref a), (1, .ref me), (2, .int i12_2), (3, .int i12_3), (4, .int s45_0)], [.int u61, .int u55], M49) _
                  refine ml_if2 (S1 := (161, [(0, .ref a), (1, .ref me), (2, .int i12_2), (3, .int i12_3)], [], M49)) (S2 := (150, [(0, .ref a), (1, .ref me), (2, .int i12_2), (3, .int i12_3), (4, .int s45_0)], [], M49)) rfl rfl rfl (fun c_147 => ?_) (fun c_147 => ?_)
                  · have c_147 : u55 = u61 := of_decide_eq_true c_147
                    refine ml_blk 2 (S' := (163, [(0, .ref a), (1, .ref me), (2, .int i12_2), (3, .int i12_3)], [.int i12_2, .ref a], M49)) rfl ?_
                    refine ml_call (a := [.ref a, .int i12_2]) (rest := []) rfl (okc_t rfl rfl rfl hS50.1 hY0 (by decide)) rfl rfl (tw_At_behind hS50.1 hY0 hY1 hY2 hY3 hY4 (by omega)) (fun v62 M63 h64 => ?_)
                    obtain ⟨⟨u65, rfl⟩, h64⟩ := h64
                    rw [h64]
                    show ml _ _ _ (166, [(0, .ref a), (1, .ref me), (2, .int i12_2), (3, .int i12_3)], [.int u65], M49) _
                    refine ml_st (S' := (167, [(2, .int u65), (0, .ref a), (1, .ref me), (3, .int i12_3)], [], M49)) rfl rfl rfl ?_
                    refine ml_st (S' := (170, [(3, .int (i12_3 + 1)), (2, .int u65), (0, .ref a), (1, .ref me)], [], M49)) rfl rfl rfl ?_
                    refine ml_st (S' := (12, [(0, .ref a), (1, .ref me), (2, .int u65), (3, .int (i12_3 + 1))], [], M49)) rfl rfl rfl ?_
                    exact ih_12 u65 (i12_3 + 1) _ (loop_inc (Int32.not_le.mp c_17) hn_12) hS50
                  · have c_147 : ¬ (u55 = u61) := of_decide_eq_false c_147
                    refine ml_st (S' := (151, [(0, .ref a), (1, .ref me), (2, .int i12_2), (3, .int i12_3), (4, .int s45_0)], [.ref a], M49)) rfl rfl rfl ?_
                    refine tg_ref (S' := (154, [(0, .ref a), (1, .ref me), (2, .int i12_2), (3, .int i12_3), (4, .int s45_0)], [.ref vd], M49)) rfl hS50.1 hY0 (by decide) rfl rfl ?_
                    refine ml_blk 2 (S' := (157, [(0, .ref a), (1, .ref me), (2, .int i12_2), (3, .int i12_3), (4, .int s45_0)], [.int i12_2, .int 31, .ref vd], M49)) rfl ?_
                    refine ml_call (a := [.ref vd, .int 31, .int i12_2]) (rest := []) rfl (okc_t rfl rfl rfl hS50.1 hY4 (by decide)) rfl rfl (tw_Ve_wrong hS50.1 hY4 (by omega)) (fun v66 M67 h68 => ?_)
                    obtain ⟨rfl, h68⟩ := h68
                    have hS70 := hS50.tr h68.1
                    show ml _ _ _ (160, [(0, .ref a), (1, .ref me), (2, .int i12_2), (3, .int i12_3), (4, .int s45_0)], [.int 0], M67) _
                    exact ml_ret rfl (r_z (Or.inl rfl)) (⟨⟨_, rfl, Or.inl rfl⟩, hS70⟩)
            refine ml_if (S1 := (98, [(0, .ref a), (1, .ref me), (2, .int i12_2), (3, .int i12_3), (4, .int s45_0)], [], M27)) (S2 := (64, [(4, .int s45_0), (0, .ref a), (1, .ref me), (2, .int i12_2), (3, .int i12_3)], [], M27)) rfl rfl rfl (fun c_61 => ?_) (fun c_61 => ?_)
            · have c_61 : s45_0 = 0 := of_decide_eq_true c_61
              exact J_98 
            · have c_61 : ¬ (s45_0 = 0) := of_decide_eq_false c_61
              refine ml_blk 3 (S' := (68, [(4, .int s45_0), (0, .ref a), (1, .ref me), (2, .int i12_2), (3, .int i12_3)], [.int i12_2, .int s45_0, .ref a], M27)) rfl ?_
              refine ml_blk 3 (S' := (72, [(4, .int s45_0), (0, .ref a), (1, .ref me), (2, .int i12_2), (3, .int i12_3)], [.ref a, .int (i12_2 + 6), .int s45_0, .ref a], M27)) rfl ?_
              refine ml_st (S' := (73, [(4, .int s45_0), (0, .ref a), (1, .ref me), (2, .int i12_2), (3, .int i12_3)], [.int i12_2, .ref a, .int (i12_2 + 6), .int s45_0, .ref a], M27)) rfl rfl rfl ?_
              refine ml_call (a := [.ref a, .int i12_2]) (rest := [.int (i12_2 + 6), .int s45_0, .ref a]) rfl (okc_t rfl rfl rfl hS31.1 hY0 (by decide)) rfl rfl (tw_At_behind hS31.1 hY0 hY1 hY2 hY3 hY4 (by omega)) (fun v71 M72 h73 => ?_)
              obtain ⟨⟨u74, rfl⟩, h73⟩ := h73
              rw [h73]
              show ml _ _ _ (76, [(4, .int s45_0), (0, .ref a), (1, .ref me), (2, .int i12_2), (3, .int i12_3)], [.int u74, .int (i12_2 + 6), .int s45_0, .ref a], M27) _
              refine ml_call (a := [.ref a, .int s45_0, .int (i12_2 + 6), .int u74]) (rest := []) rfl (okc_t rfl rfl rfl hS31.1 hY0 (by decide)) rfl rfl (tw_At_formEnd hS31.1 hY0 hY1 hY2 hY3 hY4 (by omega)) (fun v75 M76 h77 => ?_)
              obtain ⟨⟨u78, rfl⟩, h77⟩ := h77
              rw [h77]
              show ml _ _ _ (79, [(4, .int s45_0), (0, .ref a), (1, .ref me), (2, .int i12_2), (3, .int i12_3)], [.int u78], M27) _
              refine ml_blk 2 (S' := (81, [(4, .int s45_0), (0, .ref a), (1, .ref me), (2, .int i12_2), (3, .int i12_3)], [.int i12_2, .ref a, .int u78], M27)) rfl ?_
              refine ml_call (a := [.ref a, .int i12_2]) (rest := [.int u78]) rfl (okc_t rfl rfl rfl hS31.1 hY0 (by decide)) rfl rfl (tw_At_behind hS31.1 hY0 hY1 hY2 hY3 hY4 (by omega)) (fun v79 M80 h81 => ?_)
              obtain ⟨⟨u82, rfl⟩, h81⟩ := h81
              rw [h81]
              show ml _ _ _ (84, [(4, .int s45_0), (0, .ref a), (1, .ref me), (2, .int i12_2), (3, .int i12_3)], [.int u82, .int u78], M27) _
              refine ml_if2 (S1 := (98, [(0, .ref a), (1, .ref me), (2, .int i12_2), (3, .int i12_3), (4, .int s45_0)], [], M27)) (S2 := (87, [(4, .int s45_0), (0, .ref a), (1, .ref me), (2, .int i12_2), (3, .int i12_3)], [], M27)) rfl rfl rfl (fun c_84 => ?_) (fun c_84 => ?_)
              · have c_84 : u78 = u82 := of_decide_eq_true c_84
                exact J_98 
              · have c_84 : ¬ (u78 = u82) := of_decide_eq_false c_84
                refine ml_st (S' := (88, [(4, .int s45_0), (0, .ref a), (1, .ref me), (2, .int i12_2), (3, .int i12_3)], [.ref a], M27)) rfl rfl rfl ?_
                refine tg_ref (S' := (91, [(4, .int s45_0), (0, .ref a), (1, .ref me), (2, .int i12_2), (3, .int i12_3)], [.ref vd], M27)) rfl hS31.1 hY0 (by decide) rfl rfl ?_
                refine ml_blk 2 (S' := (94, [(4, .int s45_0), (0, .ref a), (1, .ref me), (2, .int i12_2), (3, .int i12_3)], [.int i12_2, .int 30, .ref vd], M27)) rfl ?_
                refine ml_call (a := [.ref vd, .int 30, .int i12_2]) (rest := []) rfl (okc_t rfl rfl rfl hS31.1 hY4 (by decide)) rfl rfl (tw_Ve_wrong hS31.1 hY4 (by omega)) (fun v83 M84 h85 => ?_)
                obtain ⟨rfl, h85⟩ := h85
                have hS87 := hS31.tr h85.1
                show ml _ _ _ (97, [(4, .int s45_0), (0, .ref a), (1, .ref me), (2, .int i12_2), (3, .int i12_3)], [.int 0], M84) _
                exact ml_ret rfl (r_z (Or.inl rfl)) (⟨⟨_, rfl, Or.inl rfl⟩, hS87⟩)
          · have c_54 : ¬ (¬ u29 = 0) := of_decide_eq_false c_54
            refine ml_st (S' := (58, [(4, .int s45_0), (0, .ref a), (1, .ref me), (2, .int i12_2), (3, .int i12_3)], [.int 0], M27)) rfl rfl rfl ?_
            exact ml_ret rfl (r_z (Or.inl rfl)) (⟨⟨_, rfl, Or.inl rfl⟩, hS31⟩)
        refine ml_if (S1 := (44, [(0, .ref a), (1, .ref me), (2, .int i12_2), (3, .int i12_3)], [], M_12)) (S2 := (40, [(0, .ref a), (1, .ref me), (2, .int i12_2), (3, .int i12_3)], [], M_12)) rfl rfl rfl (fun c_37 => ?_) (fun c_37 => ?_)
        · have c_37 : x24 = 0 := of_decide_eq_true c_37
          refine ml_st (S' := (45, [(0, .ref a), (1, .ref me), (2, .int i12_2), (3, .int i12_3)], [.int 0], M_12)) rfl rfl rfl ?_
          exact J_45 0
        · have c_37 : ¬ (x24 = 0) := of_decide_eq_false c_37
          refine ml_st (S' := (41, [(0, .ref a), (1, .ref me), (2, .int i12_2), (3, .int i12_3)], [.int 1], M_12)) rfl rfl rfl ?_
          refine ml_st (S' := (45, [(0, .ref a), (1, .ref me), (2, .int i12_2), (3, .int i12_3)], [.int 1], M_12)) rfl rfl rfl ?_
          exact J_45 1
  exact L_12 _ u4 0 _ (Nat.le_refl _) hS2
set_option maxHeartbeats 2000000 in
theorem tw_Cl_fieldsHold {g : xe_G} {M : mi_H} {Y : yT} {a c b p vd ac da n : Nat} {pp : List Nat}  (hW : WF g Y M) (hY0 : Y.1 a = some (2, [c, b, p, vd, ac])) (hY1 : Y.1 c = some (3, [b, da, n])) (hY2 : Y.1 b = some (1, [da, n])) (hY3 : Y.1 p = some (7, pp)) (hY4 : Y.1 vd = some (10, [])) (hY5 : Y.1 ac = some (0, [c, b, p, vd])) {d : Nat} (hd : 6 ≤ d) : mt (mT g) d 57 [.ref a] M (qZ g Y M) := by
  obtain ⟨d, rfl⟩ : ∃ e, d = e + 1 := ⟨d - 1, by omega⟩
  have hS : st g Y M M := st.rf hW
  refine mt_in (b := mb_57 g) rfl rfl ?_
  show ml (mT g) d (mb_57 g).2 (0, [(0, .ref a)], [], M) _
  refine ml_st (S' := (1, [(0, .ref a)], [.int 0], M)) rfl rfl rfl ?_
  refine ml_st (S' := (2, [(0, .ref a), (1, .int 0)], [], M)) rfl rfl rfl ?_
  have L_2 : ∀ (n_2 : Nat) (i2_1 : Int32) (M_2 : mi_H), (2147483648 - i2_1.toInt).toNat ≤ n_2 → 0 ≤ i2_1.toInt → st g Y M M_2 → ml (mT g) d (mb_57 g).2 (2, [(0, .ref a), (1, .int i2_1)], [], M_2) (qZ g Y M) := by
    intro n_2
    induction n_2 with
    | zero => intro i2_1 M_2 hn; exact (loop_zero hn).elim
    | succ n_2 ih_2 =>
      intro i2_1 M_2 hn_2 hi_2 hS_2
      refine ml_blk 2 (S' := (4, [(0, .ref a), (1, .int i2_1)], [.ref a, .int i2_1], M_2)) rfl ?_
      refine tg_ref (S' := (7, [(0, .ref a), (1, .int i2_1)], [.ref c, .int i2_1], M_2)) rfl hS_2.1 hY0 (by decide) rfl rfl ?_
      refine tg_vo rfl hS_2.1 hY1 (by decide) rfl (fun b1 g3 h2 => ?_)
      obtain ⟨k4, h2⟩ := h2
      show ml _ _ _ (10, [(0, .ref a), (1, .int i2_1)], [.ref b1, .int i2_1], M_2) _
      refine tl_mem (S' := (11, [(0, .ref a), (1, .int i2_1)], [.int (nI k4), .int i2_1], M_2)) rfl hS_2.1 h2 rfl ?_
      refine ml_if2 (S1 := (59, [(0, .ref a), (1, .int i2_1)], [], M_2)) (S2 := (14, [(0, .ref a), (1, .int i2_1)], [], M_2)) rfl rfl rfl (fun c_11 => ?_) (fun c_11 => ?_)
      · have c_11 : (nI k4) ≤ i2_1 := of_decide_eq_true c_11
        refine ml_st (S' := (60, [(0, .ref a), (1, .int i2_1)], [.int 1], M_2)) rfl rfl rfl ?_
        exact ml_ret rfl (r_z (Or.inr rfl)) (⟨⟨_, rfl, Or.inr rfl⟩, hS_2⟩)
      · have c_11 : ¬ ((nI k4) ≤ i2_1) := of_decide_eq_false c_11
        refine ml_st (S' := (15, [(0, .ref a), (1, .int i2_1)], [.ref a], M_2)) rfl rfl rfl ?_
        refine tg_ref (S' := (18, [(0, .ref a), (1, .int i2_1)], [.ref c], M_2)) rfl hS_2.1 hY0 (by decide) rfl rfl ?_
        refine ml_get (S' := (21, [(0, .ref a), (1, .int i2_1)], [.ref b1], M_2)) rfl g3 rfl ?_
        refine ml_st (S' := (22, [(0, .ref a), (1, .int i2_1)], [.int i2_1, .ref b1], M_2)) rfl rfl rfl ?_
        refine ta_mem rfl hS_2.1 h2 (vin_nI hi_2 c_11) ?_ (fun b5 h6 => ?_)
        · show ml _ _ _ (23, [(0, .ref a), (1, .int i2_1)], [.null], M_2) _
          refine ml_st (S' := (24, [(2, .null), (0, .ref a), (1, .int i2_1)], [], M_2)) rfl rfl rfl ?_
          refine ml_blk 2 (S' := (28, [(2, .null), (0, .ref a), (1, .int i2_1)], [], M_2)) rfl ?_
          refine ml_st (S' := (53, [(0, .ref a), (1, .int i2_1)], [], M_2)) rfl rfl rfl ?_
          refine ml_st (S' := (56, [(1, .int (i2_1 + 1)), (0, .ref a)], [], M_2)) rfl rfl rfl ?_
          refine ml_st (S' := (2, [(0, .ref a), (1, .int (i2_1 + 1))], [], M_2)) rfl rfl rfl ?_
          exact ih_2 (i2_1 + 1) _ (loop_inc (Int32.not_le.mp c_11) hn_2) (by rw [inc_lt (Int32.not_le.mp c_11)]; omega) hS_2
        · skip
          show ml _ _ _ (23, [(0, .ref a), (1, .int i2_1)], [.ref b5], M_2) _
          refine ml_st (S' := (24, [(2, .ref b5), (0, .ref a), (1, .int i2_1)], [], M_2)) rfl rfl rfl ?_
          refine ml_blk 2 (S' := (31, [(2, .ref b5), (0, .ref a), (1, .int i2_1)], [], M_2)) rfl ?_
          refine ml_blk 3 (S' := (34, [(2, .ref b5), (0, .ref a), (1, .int i2_1)], [.int i2_1, .ref b5, .ref a], M_2)) rfl ?_
          refine ml_call (a := [.ref a, .ref b5, .int i2_1]) (rest := []) rfl (okc_t rfl rfl rfl hS_2.1 hY0 (by decide)) rfl rfl (tw_Cl_fieldHolds hS_2.1 hY0 hY1 hY2 hY3 hY4 hY5 h6 (by omega)) (fun v7 M8 h9 => ?_)
          obtain ⟨⟨u10, rfl, z11⟩, h9⟩ := h9
          have hS12 := hS_2.tr h9
          show ml _ _ _ (37, [(2, .ref b5), (0, .ref a), (1, .int i2_1)], [.int u10], M8) _
          refine ml_if (S1 := (51, [], [], M8)) (S2 := (40, [(2, .ref b5), (0, .ref a), (1, .int i2_1)], [], M8)) rfl rfl rfl (fun c_37 => ?_) (fun c_37 => ?_)
          · have c_37 : u10 = 0 := of_decide_eq_true c_37
            refine ml_st (S' := (52, [], [.int 0], M8)) rfl rfl rfl ?_
            exact ml_ret rfl (r_z (Or.inl rfl)) (⟨⟨_, rfl, Or.inl rfl⟩, hS12⟩)
          · have c_37 : ¬ (u10 = 0) := of_decide_eq_false c_37
            refine ml_st (S' := (41, [(2, .ref b5), (0, .ref a), (1, .int i2_1)], [.ref a], M8)) rfl rfl rfl ?_
            refine tg_ref (S' := (44, [(2, .ref b5), (0, .ref a), (1, .int i2_1)], [.ref ac], M8)) rfl hS12.1 hY0 (by decide) rfl rfl ?_
            refine ml_st (S' := (45, [(2, .ref b5), (0, .ref a), (1, .int i2_1)], [.ref b5, .ref ac], M8)) rfl rfl rfl ?_
            refine ml_call (a := [.ref ac, .ref b5]) (rest := []) rfl (okc_t rfl rfl rfl hS12.1 hY5 (by decide)) rfl rfl (tw_At_ofField hS12.1 hY5 hY1 hY2 hY3 hY4 h6 (by omega)) (fun v13 M14 h15 => ?_)
            obtain ⟨⟨u16, rfl, z17⟩, h15⟩ := h15
            have hS18 := hS12.tr h15
            show ml _ _ _ (48, [(2, .ref b5), (0, .ref a), (1, .int i2_1)], [.int u16], M14) _
            refine ml_if (S1 := (53, [(0, .ref a), (1, .int i2_1)], [], M14)) (S2 := (51, [], [], M14)) rfl rfl rfl (fun c_48 => ?_) (fun c_48 => ?_)
            · have c_48 : ¬ u16 = 0 := of_decide_eq_true c_48
              refine ml_st (S' := (56, [(1, .int (i2_1 + 1)), (0, .ref a)], [], M14)) rfl rfl rfl ?_
              refine ml_st (S' := (2, [(0, .ref a), (1, .int (i2_1 + 1))], [], M14)) rfl rfl rfl ?_
              exact ih_2 (i2_1 + 1) _ (loop_inc (Int32.not_le.mp c_11) hn_2) (by rw [inc_lt (Int32.not_le.mp c_11)]; omega) hS18
            · have c_48 : ¬ (¬ u16 = 0) := of_decide_eq_false c_48
              refine ml_st (S' := (52, [], [.int 0], M14)) rfl rfl rfl ?_
              exact ml_ret rfl (r_z (Or.inl rfl)) (⟨⟨_, rfl, Or.inl rfl⟩, hS18⟩)
  exact L_2 _ 0 _ (Nat.le_refl _) (by decide) hS
def pM (Y : yT) (da n : Nat) (M : mi_H) : Option Value → mi_H → Prop := fun v M' => (v = some .null ∨ ∃ b, v = some (.ref b) ∧ Y.1 b = some (6, [da, n])) ∧ M' = M
set_option maxHeartbeats 2000000 in
theorem tw_Cl_memberAt {g : xe_G} {M : mi_H} {Y : yT} {c b da n : Nat} {x1 x2 : Int32}  (hW : WF g Y M) (hY0 : Y.1 c = some (3, [b, da, n])) (hY1 : Y.1 b = some (1, [da, n])) {d : Nat} (hd : 1 ≤ d) : mt (mT g) d 72 [.ref c, .int x1, .int x2] M (pM Y da n M) := by
  obtain ⟨d, rfl⟩ : ∃ e, d = e + 1 := ⟨d - 1, by omega⟩
  have hS : st g Y M M := st.rf hW
  refine mt_in (b := mb_72 g) rfl rfl ?_
  show ml (mT g) d (mb_72 g).2 (0, [(0, .ref c), (1, .int x1), (2, .int x2)], [], M) _
  refine ml_st (S' := (1, [(0, .ref c), (1, .int x1), (2, .int x2)], [.int x1], M)) rfl rfl rfl ?_
  refine ml_if (S1 := (11, [(0, .ref c), (1, .int x1), (2, .int x2)], [], M)) (S2 := (4, [(0, .ref c), (1, .int x1), (2, .int x2)], [], M)) rfl rfl rfl (fun c_1 => ?_) (fun c_1 => ?_)
  · have c_1 : x1 = 0 := of_decide_eq_true c_1
    refine ml_st (S' := (12, [(0, .ref c), (1, .int x1), (2, .int x2)], [.ref c], M)) rfl rfl rfl ?_
    refine tg_vo rfl hS.1 hY0 (by decide) rfl (fun b1 g3 h2 => ?_)
    obtain ⟨k4, h2⟩ := h2
    show ml _ _ _ (15, [(2, .int x2)], [.ref b1], M) _
    refine ml_st (S' := (16, [(3, .ref b1), (2, .int x2)], [], M)) rfl rfl rfl ?_
    refine ml_st (S' := (17, [(3, .ref b1), (2, .int x2)], [.int x2], M)) rfl rfl rfl ?_
    refine ml_if (S1 := (26, [], [], M)) (S2 := (20, [(3, .ref b1), (2, .int x2)], [], M)) rfl rfl rfl (fun c_17 => ?_) (fun c_17 => ?_)
    · have c_17 : x2 < 0 := of_decide_eq_true c_17
      refine ml_st (S' := (27, [], [.null], M)) rfl rfl rfl ?_
      refine ml_st (S' := (33, [], [.null], M)) rfl rfl rfl ?_
      exact ml_ret rfl (rfl) (⟨Or.inl rfl, rfl⟩)
    · have c_17 : ¬ (x2 < 0) := of_decide_eq_false c_17
      refine ml_blk 2 (S' := (22, [(3, .ref b1), (2, .int x2)], [.ref b1, .int x2], M)) rfl ?_
      refine tl_mem (S' := (23, [(3, .ref b1), (2, .int x2)], [.int (nI k4), .int x2], M)) rfl hS.1 h2 rfl ?_
      refine ml_if2 (S1 := (30, [(3, .ref b1), (2, .int x2)], [], M)) (S2 := (26, [], [], M)) rfl rfl rfl (fun c_23 => ?_) (fun c_23 => ?_)
      · have c_23 : x2 < (nI k4) := of_decide_eq_true c_23
        refine ml_blk 2 (S' := (32, [(3, .ref b1), (2, .int x2)], [.int x2, .ref b1], M)) rfl ?_
        refine ta_mem rfl hS.1 h2 (vin_of c_17 c_23) ?_ (fun b5 h6 => ?_)
        · show ml _ _ _ (33, [], [.null], M) _
          exact ml_ret rfl (rfl) (⟨Or.inl rfl, rfl⟩)
        · skip
          show ml _ _ _ (33, [], [.ref b5], M) _
          exact ml_ret rfl (rfl) (⟨Or.inr ⟨_, rfl, h6⟩, rfl⟩)
      · have c_23 : ¬ (x2 < (nI k4)) := of_decide_eq_false c_23
        refine ml_st (S' := (27, [], [.null], M)) rfl rfl rfl ?_
        refine ml_st (S' := (33, [], [.null], M)) rfl rfl rfl ?_
        exact ml_ret rfl (rfl) (⟨Or.inl rfl, rfl⟩)
  · have c_1 : ¬ (x1 = 0) := of_decide_eq_false c_1
    refine ml_st (S' := (5, [(0, .ref c), (1, .int x1), (2, .int x2)], [.ref c], M)) rfl rfl rfl ?_
    refine tg_vo rfl hS.1 hY0 (by decide) rfl (fun b7 g9 h8 => ?_)
    obtain ⟨k10, h8⟩ := h8
    show ml _ _ _ (8, [(0, .ref c), (1, .int x1), (2, .int x2)], [.ref b7], M) _
    refine ml_st (S' := (15, [(2, .int x2)], [.ref b7], M)) rfl rfl rfl ?_
    refine ml_st (S' := (16, [(3, .ref b7), (2, .int x2)], [], M)) rfl rfl rfl ?_
    refine ml_st (S' := (17, [(3, .ref b7), (2, .int x2)], [.int x2], M)) rfl rfl rfl ?_
    refine ml_if (S1 := (26, [], [], M)) (S2 := (20, [(3, .ref b7), (2, .int x2)], [], M)) rfl rfl rfl (fun c_17 => ?_) (fun c_17 => ?_)
    · have c_17 : x2 < 0 := of_decide_eq_true c_17
      refine ml_st (S' := (27, [], [.null], M)) rfl rfl rfl ?_
      refine ml_st (S' := (33, [], [.null], M)) rfl rfl rfl ?_
      exact ml_ret rfl (rfl) (⟨Or.inl rfl, rfl⟩)
    · have c_17 : ¬ (x2 < 0) := of_decide_eq_false c_17
      refine ml_blk 2 (S' := (22, [(3, .ref b7), (2, .int x2)], [.ref b7, .int x2], M)) rfl ?_
      refine tl_mem (S' := (23, [(3, .ref b7), (2, .int x2)], [.int (nI k10), .int x2], M)) rfl hS.1 h8 rfl ?_
      refine ml_if2 (S1 := (30, [(3, .ref b7), (2, .int x2)], [], M)) (S2 := (26, [], [], M)) rfl rfl rfl (fun c_23 => ?_) (fun c_23 => ?_)
      · have c_23 : x2 < (nI k10) := of_decide_eq_true c_23
        refine ml_blk 2 (S' := (32, [(3, .ref b7), (2, .int x2)], [.int x2, .ref b7], M)) rfl ?_
        refine ta_mem rfl hS.1 h8 (vin_of c_17 c_23) ?_ (fun b11 h12 => ?_)
        · show ml _ _ _ (33, [], [.null], M) _
          exact ml_ret rfl (rfl) (⟨Or.inl rfl, rfl⟩)
        · skip
          show ml _ _ _ (33, [], [.ref b11], M) _
          exact ml_ret rfl (rfl) (⟨Or.inr ⟨_, rfl, h12⟩, rfl⟩)
      · have c_23 : ¬ (x2 < (nI k10)) := of_decide_eq_false c_23
        refine ml_st (S' := (27, [], [.null], M)) rfl rfl rfl ?_
        refine ml_st (S' := (33, [], [.null], M)) rfl rfl rfl ?_
        exact ml_ret rfl (rfl) (⟨Or.inl rfl, rfl⟩)
