set_option maxHeartbeats 2000000 in
theorem tw_Cl_headHolds {g : xe_G} {M : mi_H} {Y : yT} {a c b p vd ac da n : Nat} {pp : List Nat}  (hW : WF g Y M) (hY0 : Y.1 a = some (2, [c, b, p, vd, ac])) (hY1 : Y.1 c = some (3, [b, da, n])) (hY2 : Y.1 b = some (1, [da, n])) (hY3 : Y.1 p = some (7, pp)) (hY4 : Y.1 vd = some (10, [])) (hY5 : Y.1 ac = some (0, [c, b, p, vd])) {d : Nat} (hd : 4 ≤ d) : mt (mT g) d 60 [.ref a] M (qZ g Y M) := by
  obtain ⟨d, rfl⟩ : ∃ e, d = e + 1 := ⟨d - 1, by omega⟩
  have hS : st g Y M M := st.rf hW
  refine mt_in (b := mb_60 g) rfl rfl ?_
  show ml (mT g) d (mb_60 g).2 (0, [(0, .ref a)], [], M) _
  refine ml_st (S' := (1, [(0, .ref a)], [.ref a], M)) rfl rfl rfl ?_
  refine tg_ref (S' := (4, [(0, .ref a)], [.ref c], M)) rfl hS.1 hY0 (by decide) rfl rfl ?_
  refine tg_int rfl hS.1 hY1 (by decide) rfl (fun u1 g2 => ?_)
  show ml _ _ _ (7, [(0, .ref a)], [.int u1], M) _
  refine ml_st (S' := (8, [(1, .int u1), (0, .ref a)], [], M)) rfl rfl rfl ?_
  refine ml_st (S' := (9, [(1, .int u1), (0, .ref a)], [.ref a], M)) rfl rfl rfl ?_
  refine tg_ref (S' := (12, [(1, .int u1), (0, .ref a)], [.ref b], M)) rfl hS.1 hY0 (by decide) rfl rfl ?_
  refine ml_st (S' := (13, [(1, .int u1), (0, .ref a)], [.int u1, .ref b], M)) rfl rfl rfl ?_
  refine ml_call (a := [.ref b, .int u1]) (rest := []) rfl (okc_t rfl rfl rfl hS.1 hY2 (by decide)) rfl rfl (tq_u2 hS.1 hY2 (by omega)) (fun v3 M4 h5 => ?_)
  obtain ⟨⟨u6, rfl⟩, h5⟩ := h5
  rw [h5]
  show ml _ _ _ (16, [(1, .int u1), (0, .ref a)], [.int u6], M) _
  refine ml_call (a := [.int u6]) (rest := []) rfl (rfl) rfl rfl (tw_Cl_classFlagsHold hS.1  (by omega)) (fun v7 M8 h9 => ?_)
  obtain ⟨⟨u10, rfl, z11⟩, h9⟩ := h9
  rw [h9]
  show ml _ _ _ (19, [(1, .int u1), (0, .ref a)], [.int u10], M) _
  refine ml_if (S1 := (33, [(1, .int u1), (0, .ref a)], [], M)) (S2 := (22, [(1, .int u1), (0, .ref a)], [], M)) rfl rfl rfl (fun c_19 => ?_) (fun c_19 => ?_)
  · have c_19 : ¬ u10 = 0 := of_decide_eq_true c_19
    refine ml_st (S' := (34, [(1, .int u1), (0, .ref a)], [.ref a], M)) rfl rfl rfl ?_
    refine tg_ref (S' := (37, [(1, .int u1), (0, .ref a)], [.ref p], M)) rfl hS.1 hY0 (by decide) rfl rfl ?_
    refine ml_st (S' := (38, [(1, .int u1), (0, .ref a)], [.ref a, .ref p], M)) rfl rfl rfl ?_
    refine tg_ref (S' := (41, [(1, .int u1), (0, .ref a)], [.ref b, .ref p], M)) rfl hS.1 hY0 (by decide) rfl rfl ?_
    refine ml_blk 3 (S' := (44, [(1, .int u1), (0, .ref a)], [.int (u1 + 2), .ref b, .ref p], M)) rfl ?_
    refine ml_call (a := [.ref b, .int (u1 + 2)]) (rest := [.ref p]) rfl (okc_t rfl rfl rfl hS.1 hY2 (by decide)) rfl rfl (tq_u2 hS.1 hY2 (by omega)) (fun v12 M13 h14 => ?_)
    obtain ⟨⟨u15, rfl⟩, h14⟩ := h14
    rw [h14]
    show ml _ _ _ (47, [(1, .int u1), (0, .ref a)], [.int u15, .ref p], M) _
    refine ml_call (a := [.ref p, .int u15]) (rest := []) rfl (okc_t rfl rfl rfl hS.1 hY3 (by decide)) rfl rfl (tq_isPlainClass hS.1 hY3 (by omega)) (fun v16 M17 h18 => ?_)
    obtain ⟨⟨u19, rfl, z20⟩, h18⟩ := h18
    rw [h18]
    show ml _ _ _ (50, [(1, .int u1), (0, .ref a)], [.int u19], M) _
    refine ml_if (S1 := (66, [(1, .int u1), (0, .ref a)], [], M)) (S2 := (53, [(1, .int u1), (0, .ref a)], [], M)) rfl rfl rfl (fun c_50 => ?_) (fun c_50 => ?_)
    · have c_50 : ¬ u19 = 0 := of_decide_eq_true c_50
      refine ml_st (S' := (67, [(1, .int u1), (0, .ref a)], [.ref a], M)) rfl rfl rfl ?_
      refine tg_ref (S' := (70, [(1, .int u1), (0, .ref a)], [.ref b], M)) rfl hS.1 hY0 (by decide) rfl rfl ?_
      refine ml_blk 3 (S' := (73, [(1, .int u1), (0, .ref a)], [.int (u1 + 4), .ref b], M)) rfl ?_
      refine ml_call (a := [.ref b, .int (u1 + 4)]) (rest := []) rfl (okc_t rfl rfl rfl hS.1 hY2 (by decide)) rfl rfl (tq_u2 hS.1 hY2 (by omega)) (fun v21 M22 h23 => ?_)
      obtain ⟨⟨u24, rfl⟩, h23⟩ := h23
      rw [h23]
      show ml _ _ _ (76, [(1, .int u1), (0, .ref a)], [.int u24], M) _
      refine ml_st (S' := (77, [(2, .int u24), (1, .int u1), (0, .ref a)], [], M)) rfl rfl rfl ?_
      refine ml_st (S' := (78, [(2, .int u24), (1, .int u1), (0, .ref a)], [.ref a], M)) rfl rfl rfl ?_
      refine tg_ref (S' := (81, [(2, .int u24), (1, .int u1), (0, .ref a)], [.ref p], M)) rfl hS.1 hY0 (by decide) rfl rfl ?_
      refine ml_st (S' := (82, [(2, .int u24), (1, .int u1), (0, .ref a)], [.int u24, .ref p], M)) rfl rfl rfl ?_
      refine ml_call (a := [.ref p, .int u24]) (rest := []) rfl (okc_t rfl rfl rfl hS.1 hY3 (by decide)) rfl rfl (tq_isPlainClass hS.1 hY3 (by omega)) (fun v25 M26 h27 => ?_)
      obtain ⟨⟨u28, rfl, z29⟩, h27⟩ := h27
      rw [h27]
      show ml _ _ _ (85, [(2, .int u24), (1, .int u1), (0, .ref a)], [.int u28], M) _
      refine ml_if (S1 := (101, [(2, .int u24), (1, .int u1), (0, .ref a)], [], M)) (S2 := (88, [(2, .int u24), (1, .int u1), (0, .ref a)], [], M)) rfl rfl rfl (fun c_85 => ?_) (fun c_85 => ?_)
      · have c_85 : ¬ u28 = 0 := of_decide_eq_true c_85
        refine ml_st (S' := (102, [(2, .int u24), (1, .int u1), (0, .ref a)], [.ref a], M)) rfl rfl rfl ?_
        refine tg_ref (S' := (105, [(2, .int u24), (1, .int u1), (0, .ref a)], [.ref c], M)) rfl hS.1 hY0 (by decide) rfl rfl ?_
        refine ml_st (S' := (108, [(2, .int u24), (1, .int u1), (0, .ref a)], [.int 512, .ref c], M)) rfl rfl rfl ?_
        refine ml_call (a := [.ref c, .int 512]) (rest := []) rfl (okc_t rfl rfl rfl hS.1 hY1 (by decide)) rfl rfl (tw_Cl_has hS.1 hY1 hY2 (by omega)) (fun v30 M31 h32 => ?_)
        obtain ⟨⟨u33, rfl, z34⟩, h32⟩ := h32
        rw [h32]
        show ml _ _ _ (111, [(2, .int u24), (1, .int u1), (0, .ref a)], [.int u33], M) _
        refine ml_if (S1 := (147, [], [], M)) (S2 := (114, [(2, .int u24), (1, .int u1), (0, .ref a)], [], M)) rfl rfl rfl (fun c_111 => ?_) (fun c_111 => ?_)
        · have c_111 : u33 = 0 := of_decide_eq_true c_111
          refine ml_st (S' := (148, [], [.int 1], M)) rfl rfl rfl ?_
          exact ml_ret rfl (r_z (Or.inr rfl)) (⟨⟨_, rfl, Or.inr rfl⟩, hS⟩)
        · have c_111 : ¬ (u33 = 0) := of_decide_eq_false c_111
          refine ml_st (S' := (115, [(2, .int u24), (1, .int u1), (0, .ref a)], [.ref a], M)) rfl rfl rfl ?_
          refine tg_ref (S' := (118, [(2, .int u24), (1, .int u1), (0, .ref a)], [.ref p], M)) rfl hS.1 hY0 (by decide) rfl rfl ?_
          refine ml_st (S' := (119, [(2, .int u24), (1, .int u1), (0, .ref a)], [.ref a, .ref p], M)) rfl rfl rfl ?_
          refine tg_ref (S' := (122, [(2, .int u24), (1, .int u1), (0, .ref a)], [.ref p, .ref p], M)) rfl hS.1 hY0 (by decide) rfl rfl ?_
          refine ml_st (S' := (123, [(2, .int u24), (1, .int u1), (0, .ref a)], [.int u24, .ref p, .ref p], M)) rfl rfl rfl ?_
          refine ml_call (a := [.ref p, .int u24]) (rest := [.ref p]) rfl (okc_t rfl rfl rfl hS.1 hY3 (by decide)) rfl rfl (tq_firstIndex hS.1 hY3 (by omega)) (fun v35 M36 h37 => ?_)
          obtain ⟨⟨u38, rfl⟩, h37⟩ := h37
          rw [h37]
          show ml _ _ _ (126, [(2, .int u24), (1, .int u1), (0, .ref a)], [.int u38, .ref p], M) _
          refine ml_st (S' := (128, [(2, .int u24), (1, .int u1), (0, .ref a)], [.ref (g.2.1 11), .int u38, .ref p], M)) rfl rfl rfl ?_
          refine ml_call (a := [.ref p, .int u38, .ref (g.2.1 11)]) (rest := []) rfl (okc_t rfl rfl rfl hS.1 hY3 (by decide)) rfl rfl (tq_textIs (lk := 11) hS.1 hY3 (by decide) (by omega)) (fun v39 M40 h41 => ?_)
          obtain ⟨⟨x42, rfl, z43⟩, h41⟩ := h41
          rw [h41]
          show ml _ _ _ (131, [(2, .int u24), (1, .int u1), (0, .ref a)], [.int x42], M) _
          refine ml_if (S1 := (147, [], [], M)) (S2 := (134, [(2, .int u24), (1, .int u1), (0, .ref a)], [], M)) rfl rfl rfl (fun c_131 => ?_) (fun c_131 => ?_)
          · have c_131 : ¬ x42 = 0 := of_decide_eq_true c_131
            refine ml_st (S' := (148, [], [.int 1], M)) rfl rfl rfl ?_
            exact ml_ret rfl (r_z (Or.inr rfl)) (⟨⟨_, rfl, Or.inr rfl⟩, hS⟩)
          · have c_131 : ¬ (¬ x42 = 0) := of_decide_eq_false c_131
            refine ml_st (S' := (135, [(2, .int u24), (1, .int u1), (0, .ref a)], [.ref a], M)) rfl rfl rfl ?_
            refine tg_ref (S' := (138, [(2, .int u24), (1, .int u1), (0, .ref a)], [.ref vd], M)) rfl hS.1 hY0 (by decide) rfl rfl ?_
            refine ml_blk 3 (S' := (142, [(2, .int u24), (1, .int u1), (0, .ref a)], [.int 4, .int u1, .int 17, .ref vd], M)) rfl ?_
            refine ml_st (S' := (143, [(2, .int u24), (1, .int u1), (0, .ref a)], [.int (u1 + 4), .int 17, .ref vd], M)) rfl rfl rfl ?_
            refine ml_call (a := [.ref vd, .int 17, .int (u1 + 4)]) (rest := []) rfl (okc_t rfl rfl rfl hS.1 hY4 (by decide)) rfl rfl (tw_Ve_wrong hS.1 hY4 (by omega)) (fun v44 M45 h46 => ?_)
            obtain ⟨rfl, h46⟩ := h46
            have hS48 := hS.tr h46.1
            show ml _ _ _ (146, [(2, .int u24), (1, .int u1), (0, .ref a)], [.int 0], M45) _
            exact ml_ret rfl (r_z (Or.inl rfl)) (⟨⟨_, rfl, Or.inl rfl⟩, hS48⟩)
      · have c_85 : ¬ (¬ u28 = 0) := of_decide_eq_false c_85
        refine ml_st (S' := (89, [(2, .int u24), (1, .int u1), (0, .ref a)], [.ref a], M)) rfl rfl rfl ?_
        refine tg_ref (S' := (92, [(2, .int u24), (1, .int u1), (0, .ref a)], [.ref vd], M)) rfl hS.1 hY0 (by decide) rfl rfl ?_
        refine ml_blk 3 (S' := (96, [(2, .int u24), (1, .int u1), (0, .ref a)], [.int 4, .int u1, .int 17, .ref vd], M)) rfl ?_
        refine ml_st (S' := (97, [(2, .int u24), (1, .int u1), (0, .ref a)], [.int (u1 + 4), .int 17, .ref vd], M)) rfl rfl rfl ?_
        refine ml_call (a := [.ref vd, .int 17, .int (u1 + 4)]) (rest := []) rfl (okc_t rfl rfl rfl hS.1 hY4 (by decide)) rfl rfl (tw_Ve_wrong hS.1 hY4 (by omega)) (fun v49 M50 h51 => ?_)
        obtain ⟨rfl, h51⟩ := h51
        have hS53 := hS.tr h51.1
        show ml _ _ _ (100, [(2, .int u24), (1, .int u1), (0, .ref a)], [.int 0], M50) _
        exact ml_ret rfl (r_z (Or.inl rfl)) (⟨⟨_, rfl, Or.inl rfl⟩, hS53⟩)
    · have c_50 : ¬ (¬ u19 = 0) := of_decide_eq_false c_50
      refine ml_st (S' := (54, [(1, .int u1), (0, .ref a)], [.ref a], M)) rfl rfl rfl ?_
      refine tg_ref (S' := (57, [(1, .int u1), (0, .ref a)], [.ref vd], M)) rfl hS.1 hY0 (by decide) rfl rfl ?_
      refine ml_blk 3 (S' := (61, [(1, .int u1), (0, .ref a)], [.int 2, .int u1, .int 16, .ref vd], M)) rfl ?_
      refine ml_st (S' := (62, [(1, .int u1), (0, .ref a)], [.int (u1 + 2), .int 16, .ref vd], M)) rfl rfl rfl ?_
      refine ml_call (a := [.ref vd, .int 16, .int (u1 + 2)]) (rest := []) rfl (okc_t rfl rfl rfl hS.1 hY4 (by decide)) rfl rfl (tw_Ve_wrong hS.1 hY4 (by omega)) (fun v54 M55 h56 => ?_)
      obtain ⟨rfl, h56⟩ := h56
      have hS58 := hS.tr h56.1
      show ml _ _ _ (65, [(1, .int u1), (0, .ref a)], [.int 0], M55) _
      exact ml_ret rfl (r_z (Or.inl rfl)) (⟨⟨_, rfl, Or.inl rfl⟩, hS58⟩)
  · have c_19 : ¬ (¬ u10 = 0) := of_decide_eq_false c_19
    refine ml_st (S' := (23, [(1, .int u1), (0, .ref a)], [.ref a], M)) rfl rfl rfl ?_
    refine tg_ref (S' := (26, [(1, .int u1), (0, .ref a)], [.ref vd], M)) rfl hS.1 hY0 (by decide) rfl rfl ?_
    refine ml_blk 2 (S' := (29, [(1, .int u1), (0, .ref a)], [.int u1, .int 15, .ref vd], M)) rfl ?_
    refine ml_call (a := [.ref vd, .int 15, .int u1]) (rest := []) rfl (okc_t rfl rfl rfl hS.1 hY4 (by decide)) rfl rfl (tw_Ve_wrong hS.1 hY4 (by omega)) (fun v59 M60 h61 => ?_)
    obtain ⟨rfl, h61⟩ := h61
    have hS63 := hS.tr h61.1
    show ml _ _ _ (32, [(1, .int u1), (0, .ref a)], [.int 0], M60) _
    exact ml_ret rfl (r_z (Or.inl rfl)) (⟨⟨_, rfl, Or.inl rfl⟩, hS63⟩)
