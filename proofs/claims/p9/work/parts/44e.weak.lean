set_option maxHeartbeats 2000000 in
theorem tw_Cl_methodNameHolds {g : xe_G} {M : mi_H} {Y : yT} {a c b p vd ac da n : Nat} {pp : List Nat} {x1 : Int32}  (hW : WF g Y M) (hY0 : Y.1 a = some (2, [c, b, p, vd, ac])) (hY1 : Y.1 c = some (3, [b, da, n])) (hY2 : Y.1 b = some (1, [da, n])) (hY3 : Y.1 p = some (7, pp)) (hY4 : Y.1 vd = some (10, [])) (hY5 : Y.1 ac = some (0, [c, b, p, vd])) {d : Nat} (hd : 4 ≤ d) : mt (mT g) d 66 [.ref a, .int x1] M (pZ M) := by
  obtain ⟨d, rfl⟩ : ∃ e, d = e + 1 := ⟨d - 1, by omega⟩
  have hS : st g Y M M := st.rf hW
  refine mt_in (b := mb_66 g) rfl rfl ?_
  show ml (mT g) d (mb_66 g).2 (0, [(0, .ref a), (1, .int x1)], [], M) _
  refine ml_st (S' := (1, [(0, .ref a), (1, .int x1)], [.ref a], M)) rfl rfl rfl ?_
  refine tg_ref (S' := (4, [(0, .ref a), (1, .int x1)], [.ref p], M)) rfl hS.1 hY0 (by decide) rfl rfl ?_
  refine ml_blk 2 (S' := (7, [(0, .ref a), (1, .int x1)], [.ref (g.2.1 12), .int x1, .ref p], M)) rfl ?_
  refine ml_call (a := [.ref p, .int x1, .ref (g.2.1 12)]) (rest := []) rfl (okc_t rfl rfl rfl hS.1 hY3 (by decide)) rfl rfl (tq_textIs (lk := 12) hS.1 hY3 (by decide) (by omega)) (fun v1 M2 h3 => ?_)
  obtain ⟨⟨x4, rfl, z5⟩, h3⟩ := h3
  rw [h3]
  show ml _ _ _ (10, [(0, .ref a), (1, .int x1)], [.int x4], M) _
  refine ml_if (S1 := (32, [(0, .ref a), (1, .int x1)], [], M)) (S2 := (13, [(0, .ref a), (1, .int x1)], [], M)) rfl rfl rfl (fun c_10 => ?_) (fun c_10 => ?_)
  · have c_10 : x4 = 0 := of_decide_eq_true c_10
    refine ml_st (S' := (33, [(0, .ref a), (1, .int x1)], [.ref a], M)) rfl rfl rfl ?_
    refine tg_ref (S' := (36, [(0, .ref a), (1, .int x1)], [.ref p], M)) rfl hS.1 hY0 (by decide) rfl rfl ?_
    refine ml_blk 2 (S' := (39, [(0, .ref a), (1, .int x1)], [.ref (g.2.1 13), .int x1, .ref p], M)) rfl ?_
    refine ml_call (a := [.ref p, .int x1, .ref (g.2.1 13)]) (rest := []) rfl (okc_t rfl rfl rfl hS.1 hY3 (by decide)) rfl rfl (tq_textIs (lk := 13) hS.1 hY3 (by decide) (by omega)) (fun v6 M7 h8 => ?_)
    obtain ⟨⟨x9, rfl, z10⟩, h8⟩ := h8
    rw [h8]
    show ml _ _ _ (42, [(0, .ref a), (1, .int x1)], [.int x9], M) _
    refine ml_if (S1 := (67, [], [], M)) (S2 := (45, [(0, .ref a), (1, .int x1)], [], M)) rfl rfl rfl (fun c_42 => ?_) (fun c_42 => ?_)
    · have c_42 : ¬ x9 = 0 := of_decide_eq_true c_42
      refine ml_st (S' := (68, [], [.int 1], M)) rfl rfl rfl ?_
      refine ml_st (S' := (72, [], [.int 1], M)) rfl rfl rfl ?_
      exact ml_ret rfl (r_z (Or.inr rfl)) (⟨⟨_, rfl, Or.inr rfl⟩, rfl⟩)
    · have c_42 : ¬ (¬ x9 = 0) := of_decide_eq_false c_42
      refine ml_st (S' := (46, [(0, .ref a), (1, .int x1)], [.ref a], M)) rfl rfl rfl ?_
      refine tg_ref (S' := (49, [(0, .ref a), (1, .int x1)], [.ref p], M)) rfl hS.1 hY0 (by decide) rfl rfl ?_
      refine ml_st (S' := (50, [(0, .ref a), (1, .int x1)], [.int x1, .ref p], M)) rfl rfl rfl ?_
      refine ml_call (a := [.ref p, .int x1]) (rest := []) rfl (okc_t rfl rfl rfl hS.1 hY3 (by decide)) rfl rfl (tq_isUnqualifiedName hS.1 hY3 (by omega)) (fun v11 M12 h13 => ?_)
      obtain ⟨⟨u14, rfl, z15⟩, h13⟩ := h13
      rw [h13]
      show ml _ _ _ (53, [(0, .ref a), (1, .int x1)], [.int u14], M) _
      refine ml_if (S1 := (71, [], [], M)) (S2 := (56, [(0, .ref a), (1, .int x1)], [], M)) rfl rfl rfl (fun c_53 => ?_) (fun c_53 => ?_)
      · have c_53 : u14 = 0 := of_decide_eq_true c_53
        refine ml_st (S' := (72, [], [.int 0], M)) rfl rfl rfl ?_
        exact ml_ret rfl (r_z (Or.inl rfl)) (⟨⟨_, rfl, Or.inl rfl⟩, rfl⟩)
      · have c_53 : ¬ (u14 = 0) := of_decide_eq_false c_53
        refine ml_st (S' := (57, [(0, .ref a), (1, .int x1)], [.ref a], M)) rfl rfl rfl ?_
        refine tg_ref (S' := (60, [(0, .ref a), (1, .int x1)], [.ref p], M)) rfl hS.1 hY0 (by decide) rfl rfl ?_
        refine ml_st (S' := (61, [(0, .ref a), (1, .int x1)], [.int x1, .ref p], M)) rfl rfl rfl ?_
        refine ml_call (a := [.ref p, .int x1]) (rest := []) rfl (okc_t rfl rfl rfl hS.1 hY3 (by decide)) rfl rfl (tq_hasAngle hS.1 hY3 (by omega)) (fun v16 M17 h18 => ?_)
        obtain ⟨⟨u19, rfl, z20⟩, h18⟩ := h18
        rw [h18]
        show ml _ _ _ (64, [(0, .ref a), (1, .int x1)], [.int u19], M) _
        refine ml_if (S1 := (71, [], [], M)) (S2 := (67, [], [], M)) rfl rfl rfl (fun c_64 => ?_) (fun c_64 => ?_)
        · have c_64 : ¬ u19 = 0 := of_decide_eq_true c_64
          refine ml_st (S' := (72, [], [.int 0], M)) rfl rfl rfl ?_
          exact ml_ret rfl (r_z (Or.inl rfl)) (⟨⟨_, rfl, Or.inl rfl⟩, rfl⟩)
        · have c_64 : ¬ (¬ u19 = 0) := of_decide_eq_false c_64
          refine ml_st (S' := (68, [], [.int 1], M)) rfl rfl rfl ?_
          refine ml_st (S' := (72, [], [.int 1], M)) rfl rfl rfl ?_
          exact ml_ret rfl (r_z (Or.inr rfl)) (⟨⟨_, rfl, Or.inr rfl⟩, rfl⟩)
  · have c_10 : ¬ (x4 = 0) := of_decide_eq_false c_10
    refine ml_st (S' := (14, [(0, .ref a), (1, .int x1)], [.ref a], M)) rfl rfl rfl ?_
    refine tg_ref (S' := (17, [(0, .ref a), (1, .int x1)], [.ref c], M)) rfl hS.1 hY0 (by decide) rfl rfl ?_
    refine ml_st (S' := (20, [(0, .ref a), (1, .int x1)], [.int 512, .ref c], M)) rfl rfl rfl ?_
    refine ml_call (a := [.ref c, .int 512]) (rest := []) rfl (okc_t rfl rfl rfl hS.1 hY1 (by decide)) rfl rfl (tw_Cl_has hS.1 hY1 hY2 (by omega)) (fun v21 M22 h23 => ?_)
    obtain ⟨⟨u24, rfl, z25⟩, h23⟩ := h23
    rw [h23]
    show ml _ _ _ (23, [(0, .ref a), (1, .int x1)], [.int u24], M) _
    refine ml_if (S1 := (30, [(0, .ref a), (1, .int x1)], [], M)) (S2 := (26, [(0, .ref a), (1, .int x1)], [], M)) rfl rfl rfl (fun c_23 => ?_) (fun c_23 => ?_)
    · have c_23 : ¬ u24 = 0 := of_decide_eq_true c_23
      refine ml_st (S' := (31, [], [.int 0], M)) rfl rfl rfl ?_
      exact ml_ret rfl (r_z (Or.inl rfl)) (⟨⟨_, rfl, Or.inl rfl⟩, rfl⟩)
    · have c_23 : ¬ (¬ u24 = 0) := of_decide_eq_false c_23
      refine ml_st (S' := (27, [(0, .ref a), (1, .int x1)], [.int 1], M)) rfl rfl rfl ?_
      refine ml_st (S' := (31, [], [.int 1], M)) rfl rfl rfl ?_
      exact ml_ret rfl (r_z (Or.inr rfl)) (⟨⟨_, rfl, Or.inr rfl⟩, rfl⟩)
set_option maxHeartbeats 2000000 in
theorem tw_Cl_methodFlagsHold {g : xe_G} {M : mi_H} {Y : yT} {a c b p vd ac da n me : Nat} {pp : List Nat}  (hW : WF g Y M) (hY0 : Y.1 a = some (2, [c, b, p, vd, ac])) (hY1 : Y.1 c = some (3, [b, da, n])) (hY2 : Y.1 b = some (1, [da, n])) (hY3 : Y.1 p = some (7, pp)) (hY4 : Y.1 vd = some (10, [])) (hY5 : Y.1 ac = some (0, [c, b, p, vd])) (hY6 : Y.1 me = some (6, [da, n])) {d : Nat} (hd : 3 ≤ d) : mt (mT g) d 64 [.ref a, .ref me] M (pZ M) := by
  obtain ⟨d, rfl⟩ : ∃ e, d = e + 1 := ⟨d - 1, by omega⟩
  have hS : st g Y M M := st.rf hW
  refine mt_in (b := mb_64 g) rfl rfl ?_
  show ml (mT g) d (mb_64 g).2 (0, [(0, .ref a), (1, .ref me)], [], M) _
  refine ml_st (S' := (1, [(0, .ref a), (1, .ref me)], [.ref a], M)) rfl rfl rfl ?_
  refine tg_ref (S' := (4, [(0, .ref a), (1, .ref me)], [.ref p], M)) rfl hS.1 hY0 (by decide) rfl rfl ?_
  refine ml_st (S' := (5, [(0, .ref a), (1, .ref me)], [.ref me, .ref p], M)) rfl rfl rfl ?_
  refine tg_int rfl hS.1 hY6 (by decide) rfl (fun u1 g2 => ?_)
  show ml _ _ _ (8, [(0, .ref a), (1, .ref me)], [.int u1, .ref p], M) _
  refine ml_st (S' := (10, [(0, .ref a), (1, .ref me)], [.ref (g.2.1 13), .int u1, .ref p], M)) rfl rfl rfl ?_
  refine ml_call (a := [.ref p, .int u1, .ref (g.2.1 13)]) (rest := []) rfl (okc_t rfl rfl rfl hS.1 hY3 (by decide)) rfl rfl (tq_textIs (lk := 13) hS.1 hY3 (by decide) (by omega)) (fun v3 M4 h5 => ?_)
  obtain ⟨⟨x6, rfl, z7⟩, h5⟩ := h5
  rw [h5]
  show ml _ _ _ (13, [(0, .ref a), (1, .ref me)], [.int x6], M) _
  refine ml_if (S1 := (18, [(0, .ref a), (1, .ref me)], [], M)) (S2 := (16, [(0, .ref a), (1, .ref me)], [], M)) rfl rfl rfl (fun c_13 => ?_) (fun c_13 => ?_)
  · have c_13 : x6 = 0 := of_decide_eq_true c_13
    refine ml_st (S' := (19, [(0, .ref a), (1, .ref me)], [.ref a], M)) rfl rfl rfl ?_
    refine tg_ref (S' := (22, [(0, .ref a), (1, .ref me)], [.ref p], M)) rfl hS.1 hY0 (by decide) rfl rfl ?_
    refine ml_st (S' := (23, [(0, .ref a), (1, .ref me)], [.ref me, .ref p], M)) rfl rfl rfl ?_
    refine ml_get (S' := (26, [(0, .ref a), (1, .ref me)], [.int u1, .ref p], M)) rfl g2 rfl ?_
    refine ml_st (S' := (28, [(0, .ref a), (1, .ref me)], [.ref (g.2.1 12), .int u1, .ref p], M)) rfl rfl rfl ?_
    refine ml_call (a := [.ref p, .int u1, .ref (g.2.1 12)]) (rest := []) rfl (okc_t rfl rfl rfl hS.1 hY3 (by decide)) rfl rfl (tq_textIs (lk := 12) hS.1 hY3 (by decide) (by omega)) (fun v8 M9 h10 => ?_)
    obtain ⟨⟨x11, rfl, z12⟩, h10⟩ := h10
    rw [h10]
    show ml _ _ _ (31, [(0, .ref a), (1, .ref me)], [.int x11], M) _
    refine ml_if (S1 := (62, [(0, .ref a), (1, .ref me)], [], M)) (S2 := (34, [(0, .ref a), (1, .ref me)], [], M)) rfl rfl rfl (fun c_31 => ?_) (fun c_31 => ?_)
    · have c_31 : x11 = 0 := of_decide_eq_true c_31
      refine ml_blk 2 (S' := (66, [(0, .ref a), (1, .ref me)], [.int 1024, .ref me], M)) rfl ?_
      refine ml_call (a := [.ref me, .int 1024]) (rest := []) rfl (okc_t rfl rfl rfl hS.1 hY6 (by decide)) rfl rfl (tw_Me_has hS.1 hY6 (by omega)) (fun v13 M14 h15 => ?_)
      obtain ⟨⟨u16, rfl, z17⟩, h15⟩ := h15
      rw [h15]
      show ml _ _ _ (69, [(0, .ref a), (1, .ref me)], [.int u16], M) _
      refine ml_if (S1 := (82, [(0, .ref a), (1, .ref me)], [], M)) (S2 := (72, [(0, .ref a), (1, .ref me)], [], M)) rfl rfl rfl (fun c_69 => ?_) (fun c_69 => ?_)
      · have c_69 : u16 = 0 := of_decide_eq_true c_69
        refine ml_st (S' := (83, [(0, .ref a), (1, .ref me)], [.ref a], M)) rfl rfl rfl ?_
        refine tg_ref (S' := (86, [(0, .ref a), (1, .ref me)], [.ref c], M)) rfl hS.1 hY0 (by decide) rfl rfl ?_
        refine ml_st (S' := (89, [(0, .ref a), (1, .ref me)], [.int 512, .ref c], M)) rfl rfl rfl ?_
        refine ml_call (a := [.ref c, .int 512]) (rest := []) rfl (okc_t rfl rfl rfl hS.1 hY1 (by decide)) rfl rfl (tw_Cl_has hS.1 hY1 hY2 (by omega)) (fun v18 M19 h20 => ?_)
        obtain ⟨⟨u21, rfl, z22⟩, h20⟩ := h20
        rw [h20]
        show ml _ _ _ (92, [(0, .ref a), (1, .ref me)], [.int u21], M) _
        refine ml_if (S1 := (103, [(0, .ref a), (1, .ref me)], [], M)) (S2 := (95, [(0, .ref a), (1, .ref me)], [], M)) rfl rfl rfl (fun c_92 => ?_) (fun c_92 => ?_)
        · have c_92 : u21 = 0 := of_decide_eq_true c_92
          refine ml_st (S' := (104, [(0, .ref a), (1, .ref me)], [.ref me], M)) rfl rfl rfl ?_
          refine tg_int rfl hS.1 hY6 (by decide) rfl (fun u23 g24 => ?_)
          show ml _ _ _ (107, [(0, .ref a), (1, .ref me)], [.int u23], M) _
          refine ml_call (a := [.int u23]) (rest := []) rfl (rfl) rfl rfl (tw_Cl_hasOneAccessAtMost hS.1  (by omega)) (fun v25 M26 h27 => ?_)
          obtain ⟨⟨u28, rfl, z29⟩, h27⟩ := h27
          rw [h27]
          show ml _ _ _ (110, [], [.int u28], M) _
          exact ml_ret rfl (r_z (z29)) (⟨⟨_, rfl, z29⟩, rfl⟩)
        · have c_92 : ¬ (u21 = 0) := of_decide_eq_false c_92
          refine ml_blk 2 (S' := (97, [(0, .ref a), (1, .ref me)], [.ref me, .ref a], M)) rfl ?_
          refine ml_call (a := [.ref a, .ref me]) (rest := []) rfl (okc_t rfl rfl rfl hS.1 hY0 (by decide)) rfl rfl (tw_Cl_interfaceMethodHolds hS.1 hY0 hY1 hY2 hY3 hY4 hY5 hY6 (by omega)) (fun v30 M31 h32 => ?_)
          obtain ⟨⟨u33, rfl, z34⟩, h32⟩ := h32
          rw [h32]
          show ml _ _ _ (100, [(0, .ref a), (1, .ref me)], [.int u33], M) _
          refine ml_st (S' := (110, [], [.int u33], M)) rfl rfl rfl ?_
          exact ml_ret rfl (r_z (z34)) (⟨⟨_, rfl, z34⟩, rfl⟩)
      · have c_69 : ¬ (u16 = 0) := of_decide_eq_false c_69
        refine ml_blk 2 (S' := (74, [(0, .ref a), (1, .ref me)], [.ref me, .ref a], M)) rfl ?_
        refine ml_call (a := [.ref a, .ref me]) (rest := []) rfl (okc_t rfl rfl rfl hS.1 hY0 (by decide)) rfl rfl (tw_Cl_abstractHolds hS.1 hY0 hY1 hY2 hY3 hY4 hY5 hY6 (by omega)) (fun v35 M36 h37 => ?_)
        obtain ⟨⟨u38, rfl, z39⟩, h37⟩ := h37
        rw [h37]
        show ml _ _ _ (77, [(0, .ref a), (1, .ref me)], [.int u38], M) _
        refine ml_if (S1 := (82, [(0, .ref a), (1, .ref me)], [], M)) (S2 := (80, [(0, .ref a), (1, .ref me)], [], M)) rfl rfl rfl (fun c_77 => ?_) (fun c_77 => ?_)
        · have c_77 : ¬ u38 = 0 := of_decide_eq_true c_77
          refine ml_st (S' := (83, [(0, .ref a), (1, .ref me)], [.ref a], M)) rfl rfl rfl ?_
          refine tg_ref (S' := (86, [(0, .ref a), (1, .ref me)], [.ref c], M)) rfl hS.1 hY0 (by decide) rfl rfl ?_
          refine ml_st (S' := (89, [(0, .ref a), (1, .ref me)], [.int 512, .ref c], M)) rfl rfl rfl ?_
          refine ml_call (a := [.ref c, .int 512]) (rest := []) rfl (okc_t rfl rfl rfl hS.1 hY1 (by decide)) rfl rfl (tw_Cl_has hS.1 hY1 hY2 (by omega)) (fun v40 M41 h42 => ?_)
          obtain ⟨⟨u43, rfl, z44⟩, h42⟩ := h42
          rw [h42]
          show ml _ _ _ (92, [(0, .ref a), (1, .ref me)], [.int u43], M) _
          refine ml_if (S1 := (103, [(0, .ref a), (1, .ref me)], [], M)) (S2 := (95, [(0, .ref a), (1, .ref me)], [], M)) rfl rfl rfl (fun c_92 => ?_) (fun c_92 => ?_)
          · have c_92 : u43 = 0 := of_decide_eq_true c_92
            refine ml_st (S' := (104, [(0, .ref a), (1, .ref me)], [.ref me], M)) rfl rfl rfl ?_
            refine tg_int rfl hS.1 hY6 (by decide) rfl (fun u45 g46 => ?_)
            show ml _ _ _ (107, [(0, .ref a), (1, .ref me)], [.int u45], M) _
            refine ml_call (a := [.int u45]) (rest := []) rfl (rfl) rfl rfl (tw_Cl_hasOneAccessAtMost hS.1  (by omega)) (fun v47 M48 h49 => ?_)
            obtain ⟨⟨u50, rfl, z51⟩, h49⟩ := h49
            rw [h49]
            show ml _ _ _ (110, [], [.int u50], M) _
            exact ml_ret rfl (r_z (z51)) (⟨⟨_, rfl, z51⟩, rfl⟩)
          · have c_92 : ¬ (u43 = 0) := of_decide_eq_false c_92
            refine ml_blk 2 (S' := (97, [(0, .ref a), (1, .ref me)], [.ref me, .ref a], M)) rfl ?_
            refine ml_call (a := [.ref a, .ref me]) (rest := []) rfl (okc_t rfl rfl rfl hS.1 hY0 (by decide)) rfl rfl (tw_Cl_interfaceMethodHolds hS.1 hY0 hY1 hY2 hY3 hY4 hY5 hY6 (by omega)) (fun v52 M53 h54 => ?_)
            obtain ⟨⟨u55, rfl, z56⟩, h54⟩ := h54
            rw [h54]
            show ml _ _ _ (100, [(0, .ref a), (1, .ref me)], [.int u55], M) _
            refine ml_st (S' := (110, [], [.int u55], M)) rfl rfl rfl ?_
            exact ml_ret rfl (r_z (z56)) (⟨⟨_, rfl, z56⟩, rfl⟩)
        · have c_77 : ¬ (¬ u38 = 0) := of_decide_eq_false c_77
          refine ml_st (S' := (81, [(0, .ref a), (1, .ref me)], [.int 0], M)) rfl rfl rfl ?_
          exact ml_ret rfl (r_z (Or.inl rfl)) (⟨⟨_, rfl, Or.inl rfl⟩, rfl⟩)
    · have c_31 : ¬ (x11 = 0) := of_decide_eq_false c_31
      refine ml_st (S' := (37, [(0, .ref a), (1, .ref me)], [.int 1400], M)) rfl rfl rfl ?_
      refine ml_st (S' := (38, [(2, .int 1400), (0, .ref a), (1, .ref me)], [], M)) rfl rfl rfl ?_
      refine ml_st (S' := (39, [(2, .int 1400), (0, .ref a), (1, .ref me)], [.ref me], M)) rfl rfl rfl ?_
      refine tg_int rfl hS.1 hY6 (by decide) rfl (fun u57 g58 => ?_)
      show ml _ _ _ (42, [(2, .int 1400), (0, .ref a), (1, .ref me)], [.int u57], M) _
      refine ml_call (a := [.int u57]) (rest := []) rfl (rfl) rfl rfl (tw_Cl_hasOneAccessAtMost hS.1  (by omega)) (fun v59 M60 h61 => ?_)
      obtain ⟨⟨u62, rfl, z63⟩, h61⟩ := h61
      rw [h61]
      show ml _ _ _ (45, [(2, .int 1400), (0, .ref a), (1, .ref me)], [.int u62], M) _
      refine ml_if (S1 := (60, [], [], M)) (S2 := (48, [(2, .int 1400), (0, .ref a), (1, .ref me)], [], M)) rfl rfl rfl (fun c_45 => ?_) (fun c_45 => ?_)
      · have c_45 : u62 = 0 := of_decide_eq_true c_45
        refine ml_st (S' := (61, [], [.int 0], M)) rfl rfl rfl ?_
        exact ml_ret rfl (r_z (Or.inl rfl)) (⟨⟨_, rfl, Or.inl rfl⟩, rfl⟩)
      · have c_45 : ¬ (u62 = 0) := of_decide_eq_false c_45
        refine ml_blk 2 (S' := (50, [(2, .int 1400), (0, .ref a), (1, .ref me)], [.int 1400, .ref me], M)) rfl ?_
        refine ml_call (a := [.ref me, .int 1400]) (rest := []) rfl (okc_t rfl rfl rfl hS.1 hY6 (by decide)) rfl rfl (tw_Me_has hS.1 hY6 (by omega)) (fun v64 M65 h66 => ?_)
        obtain ⟨⟨u67, rfl, z68⟩, h66⟩ := h66
        rw [h66]
        show ml _ _ _ (53, [(2, .int 1400), (0, .ref a), (1, .ref me)], [.int u67], M) _
        refine ml_if (S1 := (60, [], [], M)) (S2 := (56, [(2, .int 1400), (0, .ref a), (1, .ref me)], [], M)) rfl rfl rfl (fun c_53 => ?_) (fun c_53 => ?_)
        · have c_53 : ¬ u67 = 0 := of_decide_eq_true c_53
          refine ml_st (S' := (61, [], [.int 0], M)) rfl rfl rfl ?_
          exact ml_ret rfl (r_z (Or.inl rfl)) (⟨⟨_, rfl, Or.inl rfl⟩, rfl⟩)
        · have c_53 : ¬ (¬ u67 = 0) := of_decide_eq_false c_53
          refine ml_st (S' := (57, [(2, .int 1400), (0, .ref a), (1, .ref me)], [.int 1], M)) rfl rfl rfl ?_
          refine ml_st (S' := (61, [], [.int 1], M)) rfl rfl rfl ?_
          exact ml_ret rfl (r_z (Or.inr rfl)) (⟨⟨_, rfl, Or.inr rfl⟩, rfl⟩)
  · have c_13 : ¬ (x6 = 0) := of_decide_eq_false c_13
    refine ml_st (S' := (17, [(0, .ref a), (1, .ref me)], [.int 1], M)) rfl rfl rfl ?_
    exact ml_ret rfl (r_z (Or.inr rfl)) (⟨⟨_, rfl, Or.inr rfl⟩, rfl⟩)
set_option maxHeartbeats 2000000 in
theorem tw_Cl_headHolds {g : xe_G} {M : mi_H} {Y : yT} {a c b p vd ac da n : Nat} {pp : List Nat}  (hW : WF g Y M) (hY0 : Y.1 a = some (2, [c, b, p, vd, ac])) (hY1 : Y.1 c = some (3, [b, da, n])) (hY2 : Y.1 b = some (1, [da, n])) (hY3 : Y.1 p = some (7, pp)) (hY4 : Y.1 vd = some (10, [])) (hY5 : Y.1 ac = some (0, [c, b, p, vd])) {d : Nat} (hd : 4 ≤ d) : mt (mT g) d 60 [.ref a] M (qZ g Y M) := by
  obtain ⟨d, rfl⟩ : ∃ e, d = e + 1 := ⟨d - 1, by omega⟩
  have hS : st g Y M M := st.rf hW
  refine mt_in (b := mb_60 g) rfl rfl ?_
  show ml (mT g) d (mb_60 g).2 (0, [(0, .ref a)], [], M) _
  refine ml_st (S' := (1, [(0, .ref a)], [.ref a], M)) rfl rfl rfl ?_
  refine tg_ref (S' := (4, [(0, .ref a)], [.ref c], M)) rfl hS.1 hY0 (by decide) rfl rfl ?_
  refine tg_int rfl hS.1 hY1 (by decide) rfl (fun u1 g2 => ?_)
  show ml _ _ _ (7, [(0, .ref a)], [.int u1], M) _
  refine ml_st (S' := (8, [(1, .int u1), (0, .ref a)], [], M)) rfl rfl rfl ?_
  refine ml_st (S' := (9, [(1, .int u1), (0, .ref a)], [.ref a], M)) rfl rfl rfl ?_
  refine tg_ref (S' := (12, [(1, .int u1), (0, .ref a)], [.ref b], M)) rfl hS.1 hY0 (by decide) rfl rfl ?_
  refine ml_st (S' := (13, [(1, .int u1), (0, .ref a)], [.int u1, .ref b], M)) rfl rfl rfl ?_
  refine ml_call (a := [.ref b, .int u1]) (rest := []) rfl (okc_t rfl rfl rfl hS.1 hY2 (by decide)) rfl rfl (tq_u2 hS.1 hY2 (by omega)) (fun v3 M4 h5 => ?_)
  obtain ⟨⟨u6, rfl⟩, h5⟩ := h5
  rw [h5]
  show ml _ _ _ (16, [(1, .int u1), (0, .ref a)], [.int u6], M) _
  refine ml_call (a := [.int u6]) (rest := []) rfl (rfl) rfl rfl (tw_Cl_classFlagsHold hS.1  (by omega)) (fun v7 M8 h9 => ?_)
  obtain ⟨⟨u10, rfl, z11⟩, h9⟩ := h9
  rw [h9]
  show ml _ _ _ (19, [(1, .int u1), (0, .ref a)], [.int u10], M) _
  refine ml_if (S1 := (33, [(1, .int u1), (0, .ref a)], [], M)) (S2 := (22, [(1, .int u1), (0, .ref a)], [], M)) rfl rfl rfl (fun c_19 => ?_) (fun c_19 => ?_)
  · have c_19 : ¬ u10 = 0 := of_decide_eq_true c_19
    refine ml_st (S' := (34, [(1, .int u1), (0, .ref a)], [.ref a], M)) rfl rfl rfl ?_
    refine tg_ref (S' := (37, [(1, .int u1), (0, .ref a)], [.ref p], M)) rfl hS.1 hY0 (by decide) rfl rfl ?_
    refine ml_st (S' := (38, [(1, .int u1), (0, .ref a)], [.ref a, .ref p], M)) rfl rfl rfl ?_
    refine tg_ref (S' := (41, [(1, .int u1), (0, .ref a)], [.ref b, .ref p], M)) rfl hS.1 hY0 (by decide) rfl rfl ?_
    refine ml_blk 3 (S' := (44, [(1, .int u1), (0, .ref a)], [.int (u1 + 2), .ref b, .ref p], M)) rfl ?_
    refine ml_call (a := [.ref b, .int (u1 + 2)]) (rest := [.ref p]) rfl (okc_t rfl rfl rfl hS.1 hY2 (by decide)) rfl rfl (tq_u2 hS.1 hY2 (by omega)) (fun v12 M13 h14 => ?_)
    obtain ⟨⟨u15, rfl⟩, h14⟩ := h14
    rw [h14]
    show ml _ _ _ (47, [(1, .int u1), (0, .ref a)], [.int u15, .ref p], M) _
    refine ml_call (a := [.ref p, .int u15]) (rest := []) rfl (okc_t rfl rfl rfl hS.1 hY3 (by decide)) rfl rfl (tq_isPlainClass hS.1 hY3 (by omega)) (fun v16 M17 h18 => ?_)
    obtain ⟨⟨u19, rfl, z20⟩, h18⟩ := h18
    rw [h18]
    show ml _ _ _ (50, [(1, .int u1), (0, .ref a)], [.int u19], M) _
    refine ml_if (S1 := (66, [(1, .int u1), (0, .ref a)], [], M)) (S2 := (53, [(1, .int u1), (0, .ref a)], [], M)) rfl rfl rfl (fun c_50 => ?_) (fun c_50 => ?_)
    · have c_50 : ¬ u19 = 0 := of_decide_eq_true c_50
      refine ml_st (S' := (67, [(1, .int u1), (0, .ref a)], [.ref a], M)) rfl rfl rfl ?_
      refine tg_ref (S' := (70, [(1, .int u1), (0, .ref a)], [.ref b], M)) rfl hS.1 hY0 (by decide) rfl rfl ?_
      refine ml_blk 3 (S' := (73, [(1, .int u1), (0, .ref a)], [.int (u1 + 4), .ref b], M)) rfl ?_
      refine ml_call (a := [.ref b, .int (u1 + 4)]) (rest := []) rfl (okc_t rfl rfl rfl hS.1 hY2 (by decide)) rfl rfl (tq_u2 hS.1 hY2 (by omega)) (fun v21 M22 h23 => ?_)
      obtain ⟨⟨u24, rfl⟩, h23⟩ := h23
      rw [h23]
      show ml _ _ _ (76, [(1, .int u1), (0, .ref a)], [.int u24], M) _
      refine ml_st (S' := (77, [(2, .int u24), (1, .int u1), (0, .ref a)], [], M)) rfl rfl rfl ?_
      refine ml_st (S' := (78, [(2, .int u24), (1, .int u1), (0, .ref a)], [.ref a], M)) rfl rfl rfl ?_
      refine tg_ref (S' := (81, [(2, .int u24), (1, .int u1), (0, .ref a)], [.ref p], M)) rfl hS.1 hY0 (by decide) rfl rfl ?_
      refine ml_st (S' := (82, [(2, .int u24), (1, .int u1), (0, .ref a)], [.int u24, .ref p], M)) rfl rfl rfl ?_
      refine ml_call (a := [.ref p, .int u24]) (rest := []) rfl (okc_t rfl rfl rfl hS.1 hY3 (by decide)) rfl rfl (tq_isPlainClass hS.1 hY3 (by omega)) (fun v25 M26 h27 => ?_)
      obtain ⟨⟨u28, rfl, z29⟩, h27⟩ := h27
      rw [h27]
      show ml _ _ _ (85, [(2, .int u24), (1, .int u1), (0, .ref a)], [.int u28], M) _
      refine ml_if (S1 := (101, [(2, .int u24), (1, .int u1), (0, .ref a)], [], M)) (S2 := (88, [(2, .int u24), (1, .int u1), (0, .ref a)], [], M)) rfl rfl rfl (fun c_85 => ?_) (fun c_85 => ?_)
      · have c_85 : ¬ u28 = 0 := of_decide_eq_true c_85
        refine ml_st (S' := (102, [(2, .int u24), (1, .int u1), (0, .ref a)], [.ref a], M)) rfl rfl rfl ?_
        refine tg_ref (S' := (105, [(2, .int u24), (1, .int u1), (0, .ref a)], [.ref c], M)) rfl hS.1 hY0 (by decide) rfl rfl ?_
        refine ml_st (S' := (108, [(2, .int u24), (1, .int u1), (0, .ref a)], [.int 512, .ref c], M)) rfl rfl rfl ?_
        refine ml_call (a := [.ref c, .int 512]) (rest := []) rfl (okc_t rfl rfl rfl hS.1 hY1 (by decide)) rfl rfl (tw_Cl_has hS.1 hY1 hY2 (by omega)) (fun v30 M31 h32 => ?_)
        obtain ⟨⟨u33, rfl, z34⟩, h32⟩ := h32
        rw [h32]
        show ml _ _ _ (111, [(2, .int u24), (1, .int u1), (0, .ref a)], [.int u33], M) _
        refine ml_if (S1 := (147, [], [], M)) (S2 := (114, [(2, .int u24), (1, .int u1), (0, .ref a)], [], M)) rfl rfl rfl (fun c_111 => ?_) (fun c_111 => ?_)
        · have c_111 : u33 = 0 := of_decide_eq_true c_111
          refine ml_st (S' := (148, [], [.int 1], M)) rfl rfl rfl ?_
          exact ml_ret rfl (r_z (Or.inr rfl)) (⟨⟨_, rfl, Or.inr rfl⟩, hS⟩)
        · have c_111 : ¬ (u33 = 0) := of_decide_eq_false c_111
          refine ml_st (S' := (115, [(2, .int u24), (1, .int u1), (0, .ref a)], [.ref a], M)) rfl rfl rfl ?_
          refine tg_ref (S' := (118, [(2, .int u24), (1, .int u1), (0, .ref a)], [.ref p], M)) rfl hS.1 hY0 (by decide) rfl rfl ?_
          refine ml_st (S' := (119, [(2, .int u24), (1, .int u1), (0, .ref a)], [.ref a, .ref p], M)) rfl rfl rfl ?_
          refine tg_ref (S' := (122, [(2, .int u24), (1, .int u1), (0, .ref a)], [.ref p, .ref p], M)) rfl hS.1 hY0 (by decide) rfl rfl ?_
          refine ml_st (S' := (123, [(2, .int u24), (1, .int u1), (0, .ref a)], [.int u24, .ref p, .ref p], M)) rfl rfl rfl ?_
          refine ml_call (a := [.ref p, .int u24]) (rest := [.ref p]) rfl (okc_t rfl rfl rfl hS.1 hY3 (by decide)) rfl rfl (tq_firstIndex hS.1 hY3 (by omega)) (fun v35 M36 h37 => ?_)
          obtain ⟨⟨u38, rfl⟩, h37⟩ := h37
          rw [h37]
          show ml _ _ _ (126, [(2, .int u24), (1, .int u1), (0, .ref a)], [.int u38, .ref p], M) _
          refine ml_st (S' := (128, [(2, .int u24), (1, .int u1), (0, .ref a)], [.ref (g.2.1 11), .int u38, .ref p], M)) rfl rfl rfl ?_
          refine ml_call (a := [.ref p, .int u38, .ref (g.2.1 11)]) (rest := []) rfl (okc_t rfl rfl rfl hS.1 hY3 (by decide)) rfl rfl (tq_textIs (lk := 11) hS.1 hY3 (by decide) (by omega)) (fun v39 M40 h41 => ?_)
          obtain ⟨⟨x42, rfl, z43⟩, h41⟩ := h41
          rw [h41]
          show ml _ _ _ (131, [(2, .int u24), (1, .int u1), (0, .ref a)], [.int x42], M) _
          refine ml_if (S1 := (147, [], [], M)) (S2 := (134, [(2, .int u24), (1, .int u1), (0, .ref a)], [], M)) rfl rfl rfl (fun c_131 => ?_) (fun c_131 => ?_)
          · have c_131 : ¬ x42 = 0 := of_decide_eq_true c_131
            refine ml_st (S' := (148, [], [.int 1], M)) rfl rfl rfl ?_
            exact ml_ret rfl (r_z (Or.inr rfl)) (⟨⟨_, rfl, Or.inr rfl⟩, hS⟩)
          · have c_131 : ¬ (¬ x42 = 0) := of_decide_eq_false c_131
            refine ml_st (S' := (135, [(2, .int u24), (1, .int u1), (0, .ref a)], [.ref a], M)) rfl rfl rfl ?_
            refine tg_ref (S' := (138, [(2, .int u24), (1, .int u1), (0, .ref a)], [.ref vd], M)) rfl hS.1 hY0 (by decide) rfl rfl ?_
            refine ml_blk 3 (S' := (142, [(2, .int u24), (1, .int u1), (0, .ref a)], [.int 4, .int u1, .int 17, .ref vd], M)) rfl ?_
            refine ml_st (S' := (143, [(2, .int u24), (1, .int u1), (0, .ref a)], [.int (u1 + 4), .int 17, .ref vd], M)) rfl rfl rfl ?_
            refine ml_call (a := [.ref vd, .int 17, .int (u1 + 4)]) (rest := []) rfl (okc_t rfl rfl rfl hS.1 hY4 (by decide)) rfl rfl (tw_Ve_wrong hS.1 hY4 (by omega)) (fun v44 M45 h46 => ?_)
            obtain ⟨rfl, h46⟩ := h46
            have hS48 := hS.tr h46.1
            show ml _ _ _ (146, [(2, .int u24), (1, .int u1), (0, .ref a)], [.int 0], M45) _
            exact ml_ret rfl (r_z (Or.inl rfl)) (⟨⟨_, rfl, Or.inl rfl⟩, hS48⟩)
      · have c_85 : ¬ (¬ u28 = 0) := of_decide_eq_false c_85
        refine ml_st (S' := (89, [(2, .int u24), (1, .int u1), (0, .ref a)], [.ref a], M)) rfl rfl rfl ?_
        refine tg_ref (S' := (92, [(2, .int u24), (1, .int u1), (0, .ref a)], [.ref vd], M)) rfl hS.1 hY0 (by decide) rfl rfl ?_
        refine ml_blk 3 (S' := (96, [(2, .int u24), (1, .int u1), (0, .ref a)], [.int 4, .int u1, .int 17, .ref vd], M)) rfl ?_
        refine ml_st (S' := (97, [(2, .int u24), (1, .int u1), (0, .ref a)], [.int (u1 + 4), .int 17, .ref vd], M)) rfl rfl rfl ?_
        refine ml_call (a := [.ref vd, .int 17, .int (u1 + 4)]) (rest := []) rfl (okc_t rfl rfl rfl hS.1 hY4 (by decide)) rfl rfl (tw_Ve_wrong hS.1 hY4 (by omega)) (fun v49 M50 h51 => ?_)
        obtain ⟨rfl, h51⟩ := h51
        have hS53 := hS.tr h51.1
        show ml _ _ _ (100, [(2, .int u24), (1, .int u1), (0, .ref a)], [.int 0], M50) _
        exact ml_ret rfl (r_z (Or.inl rfl)) (⟨⟨_, rfl, Or.inl rfl⟩, hS53⟩)
    · have c_50 : ¬ (¬ u19 = 0) := of_decide_eq_false c_50
      refine ml_st (S' := (54, [(1, .int u1), (0, .ref a)], [.ref a], M)) rfl rfl rfl ?_
      refine tg_ref (S' := (57, [(1, .int u1), (0, .ref a)], [.ref vd], M)) rfl hS.1 hY0 (by decide) rfl rfl ?_
      refine ml_blk 3 (S' := (61, [(1, .int u1), (0, .ref a)], [.int 2, .int u1, .int 16, .ref vd], M)) rfl ?_
      refine ml_st (S' := (62, [(1, .int u1), (0, .ref a)], [.int (u1 + 2), .int 16, .ref vd], M)) rfl rfl rfl ?_
      refine ml_call (a := [.ref vd, .int 16, .int (u1 + 2)]) (rest := []) rfl (okc_t rfl rfl rfl hS.1 hY4 (by decide)) rfl rfl (tw_Ve_wrong hS.1 hY4 (by omega)) (fun v54 M55 h56 => ?_)
      obtain ⟨rfl, h56⟩ := h56
      have hS58 := hS.tr h56.1
      show ml _ _ _ (65, [(1, .int u1), (0, .ref a)], [.int 0], M55) _
      exact ml_ret rfl (r_z (Or.inl rfl)) (⟨⟨_, rfl, Or.inl rfl⟩, hS58⟩)
  · have c_19 : ¬ (¬ u10 = 0) := of_decide_eq_false c_19
    refine ml_st (S' := (23, [(1, .int u1), (0, .ref a)], [.ref a], M)) rfl rfl rfl ?_
    refine tg_ref (S' := (26, [(1, .int u1), (0, .ref a)], [.ref vd], M)) rfl hS.1 hY0 (by decide) rfl rfl ?_
    refine ml_blk 2 (S' := (29, [(1, .int u1), (0, .ref a)], [.int u1, .int 15, .ref vd], M)) rfl ?_
    refine ml_call (a := [.ref vd, .int 15, .int u1]) (rest := []) rfl (okc_t rfl rfl rfl hS.1 hY4 (by decide)) rfl rfl (tw_Ve_wrong hS.1 hY4 (by omega)) (fun v59 M60 h61 => ?_)
    obtain ⟨rfl, h61⟩ := h61
    have hS63 := hS.tr h61.1
    show ml _ _ _ (32, [(1, .int u1), (0, .ref a)], [.int 0], M60) _
    exact ml_ret rfl (r_z (Or.inl rfl)) (⟨⟨_, rfl, Or.inl rfl⟩, hS63⟩)
set_option maxHeartbeats 2000000 in
theorem tw_Cl_interfacesHold {g : xe_G} {M : mi_H} {Y : yT} {a c b p vd ac da n : Nat} {pp : List Nat}  (hW : WF g Y M) (hY0 : Y.1 a = some (2, [c, b, p, vd, ac])) (hY1 : Y.1 c = some (3, [b, da, n])) (hY2 : Y.1 b = some (1, [da, n])) (hY3 : Y.1 p = some (7, pp)) (hY4 : Y.1 vd = some (10, [])) (hY5 : Y.1 ac = some (0, [c, b, p, vd])) {d : Nat} (hd : 4 ≤ d) : mt (mT g) d 62 [.ref a] M (qZ g Y M) := by
  obtain ⟨d, rfl⟩ : ∃ e, d = e + 1 := ⟨d - 1, by omega⟩
  have hS : st g Y M M := st.rf hW
  refine mt_in (b := mb_62 g) rfl rfl ?_
  show ml (mT g) d (mb_62 g).2 (0, [(0, .ref a)], [], M) _
  refine ml_st (S' := (1, [(0, .ref a)], [.ref a], M)) rfl rfl rfl ?_
  refine tg_ref (S' := (4, [(0, .ref a)], [.ref c], M)) rfl hS.1 hY0 (by decide) rfl rfl ?_
  refine tg_int rfl hS.1 hY1 (by decide) rfl (fun u1 g2 => ?_)
  show ml _ _ _ (7, [(0, .ref a)], [.int u1], M) _
  refine ml_blk 2 (S' := (10, [(0, .ref a)], [.int (u1 + 8)], M)) rfl ?_
  refine ml_st (S' := (11, [(1, .int (u1 + 8)), (0, .ref a)], [], M)) rfl rfl rfl ?_
  refine ml_st (S' := (12, [(1, .int (u1 + 8)), (0, .ref a)], [.int 0], M)) rfl rfl rfl ?_
  refine ml_st (S' := (13, [(0, .ref a), (1, .int (u1 + 8)), (2, .int 0)], [], M)) rfl rfl rfl ?_
  have L_13 : ∀ (n_13 : Nat) (i13_2 : Int32), (2147483648 - i13_2.toInt).toNat ≤ n_13 → ml (mT g) d (mb_62 g).2 (13, [(0, .ref a), (1, .int (u1 + 8)), (2, .int i13_2)], [], M) (qZ g Y M) := by
    intro n_13
    induction n_13 with
    | zero => intro i13_2 hn; exact (loop_zero hn).elim
    | succ n_13 ih_13 =>
      intro i13_2 hn_13
      refine ml_blk 2 (S' := (15, [(0, .ref a), (1, .int (u1 + 8)), (2, .int i13_2)], [.ref a, .int i13_2], M)) rfl ?_
      refine tg_ref (S' := (18, [(0, .ref a), (1, .int (u1 + 8)), (2, .int i13_2)], [.ref c, .int i13_2], M)) rfl hS.1 hY0 (by decide) rfl rfl ?_
      refine tg_int rfl hS.1 hY1 (by decide) rfl (fun u3 g4 => ?_)
      show ml _ _ _ (21, [(0, .ref a), (1, .int (u1 + 8)), (2, .int i13_2)], [.int u3, .int i13_2], M) _
      refine ml_if2 (S1 := (141, [(0, .ref a), (1, .int (u1 + 8)), (2, .int i13_2)], [], M)) (S2 := (24, [(0, .ref a), (1, .int (u1 + 8)), (2, .int i13_2)], [], M)) rfl rfl rfl (fun c_21 => ?_) (fun c_21 => ?_)
      · have c_21 : u3 ≤ i13_2 := of_decide_eq_true c_21
        refine ml_st (S' := (142, [(0, .ref a), (1, .int (u1 + 8)), (2, .int i13_2)], [.int 1], M)) rfl rfl rfl ?_
        exact ml_ret rfl (r_z (Or.inr rfl)) (⟨⟨_, rfl, Or.inr rfl⟩, hS⟩)
      · have c_21 : ¬ (u3 ≤ i13_2) := of_decide_eq_false c_21
        refine ml_st (S' := (25, [(0, .ref a), (1, .int (u1 + 8)), (2, .int i13_2)], [.ref a], M)) rfl rfl rfl ?_
        refine tg_ref (S' := (28, [(0, .ref a), (1, .int (u1 + 8)), (2, .int i13_2)], [.ref b], M)) rfl hS.1 hY0 (by decide) rfl rfl ?_
        refine ml_blk 3 (S' := (31, [(0, .ref a), (1, .int (u1 + 8)), (2, .int i13_2)], [.int i13_2, .int 2, .int (u1 + 8), .ref b], M)) rfl ?_
        refine ml_blk 2 (S' := (33, [(0, .ref a), (1, .int (u1 + 8)), (2, .int i13_2)], [.int ((u1 + 8) + (2 * i13_2)), .ref b], M)) rfl ?_
        refine ml_call (a := [.ref b, .int ((u1 + 8) + (2 * i13_2))]) (rest := []) rfl (okc_t rfl rfl rfl hS.1 hY2 (by decide)) rfl rfl (tq_u2 hS.1 hY2 (by omega)) (fun v5 M6 h7 => ?_)
        obtain ⟨⟨u8, rfl⟩, h7⟩ := h7
        rw [h7]
        show ml _ _ _ (36, [(0, .ref a), (1, .int (u1 + 8)), (2, .int i13_2)], [.int u8], M) _
        refine ml_st (S' := (37, [(3, .int u8), (0, .ref a), (1, .int (u1 + 8)), (2, .int i13_2)], [], M)) rfl rfl rfl ?_
        refine ml_st (S' := (38, [(3, .int u8), (0, .ref a), (1, .int (u1 + 8)), (2, .int i13_2)], [.ref a], M)) rfl rfl rfl ?_
        refine tg_ref (S' := (41, [(3, .int u8), (0, .ref a), (1, .int (u1 + 8)), (2, .int i13_2)], [.ref p], M)) rfl hS.1 hY0 (by decide) rfl rfl ?_
        refine ml_st (S' := (42, [(3, .int u8), (0, .ref a), (1, .int (u1 + 8)), (2, .int i13_2)], [.int u8, .ref p], M)) rfl rfl rfl ?_
        refine ml_call (a := [.ref p, .int u8]) (rest := []) rfl (okc_t rfl rfl rfl hS.1 hY3 (by decide)) rfl rfl (tq_isPlainClass hS.1 hY3 (by omega)) (fun v9 M10 h11 => ?_)
        obtain ⟨⟨u12, rfl, z13⟩, h11⟩ := h11
        rw [h11]
        show ml _ _ _ (45, [(3, .int u8), (0, .ref a), (1, .int (u1 + 8)), (2, .int i13_2)], [.int u12], M) _
        refine ml_if (S1 := (63, [(3, .int u8), (0, .ref a), (1, .int (u1 + 8)), (2, .int i13_2)], [], M)) (S2 := (48, [(3, .int u8), (0, .ref a), (1, .int (u1 + 8)), (2, .int i13_2)], [], M)) rfl rfl rfl (fun c_45 => ?_) (fun c_45 => ?_)
        · have c_45 : ¬ u12 = 0 := of_decide_eq_true c_45
          refine ml_st (S' := (64, [(3, .int u8), (0, .ref a), (1, .int (u1 + 8)), (2, .int i13_2)], [.int 0], M)) rfl rfl rfl ?_
          refine ml_st (S' := (66, [(0, .ref a), (1, .int (u1 + 8)), (2, .int i13_2), (3, .int u8), (4, .int 0)], [], M)) rfl rfl rfl ?_
          have L_66 : ∀ (n_66 : Nat) (i66_4 : Int32), (2147483648 - i66_4.toInt).toNat ≤ n_66 → ml (mT g) d (mb_62 g).2 (66, [(0, .ref a), (1, .int (u1 + 8)), (2, .int i13_2), (3, .int u8), (4, .int i66_4)], [], M) (qZ g Y M) := by
            intro n_66
            induction n_66 with
            | zero => intro i66_4 hn; exact (loop_zero hn).elim
            | succ n_66 ih_66 =>
              intro i66_4 hn_66
              refine ml_blk 2 (S' := (69, [(0, .ref a), (1, .int (u1 + 8)), (2, .int i13_2), (3, .int u8), (4, .int i66_4)], [.int i13_2, .int i66_4], M)) rfl ?_
              refine ml_if2 (S1 := (135, [(0, .ref a), (1, .int (u1 + 8)), (2, .int i13_2), (3, .int u8), (4, .int i66_4)], [], M)) (S2 := (72, [(0, .ref a), (1, .int (u1 + 8)), (2, .int i13_2), (3, .int u8), (4, .int i66_4)], [], M)) rfl rfl rfl (fun c_69 => ?_) (fun c_69 => ?_)
              · have c_69 : i13_2 ≤ i66_4 := of_decide_eq_true c_69
                refine ml_st (S' := (138, [(2, .int (i13_2 + 1)), (0, .ref a), (1, .int (u1 + 8)), (3, .int u8), (4, .int i66_4)], [], M)) rfl rfl rfl ?_
                refine ml_st (S' := (13, [(0, .ref a), (1, .int (u1 + 8)), (2, .int (i13_2 + 1))], [], M)) rfl rfl rfl ?_
                exact ih_13 (i13_2 + 1) (loop_inc (Int32.not_le.mp c_21) hn_13) 
              · have c_69 : ¬ (i13_2 ≤ i66_4) := of_decide_eq_false c_69
                refine ml_st (S' := (73, [(0, .ref a), (1, .int (u1 + 8)), (2, .int i13_2), (3, .int u8), (4, .int i66_4)], [.ref a], M)) rfl rfl rfl ?_
                refine tg_ref (S' := (76, [(0, .ref a), (1, .int (u1 + 8)), (2, .int i13_2), (3, .int u8), (4, .int i66_4)], [.ref b], M)) rfl hS.1 hY0 (by decide) rfl rfl ?_
                refine ml_blk 3 (S' := (80, [(0, .ref a), (1, .int (u1 + 8)), (2, .int i13_2), (3, .int u8), (4, .int i66_4)], [.int i66_4, .int 2, .int (u1 + 8), .ref b], M)) rfl ?_
                refine ml_blk 2 (S' := (82, [(0, .ref a), (1, .int (u1 + 8)), (2, .int i13_2), (3, .int u8), (4, .int i66_4)], [.int ((u1 + 8) + (2 * i66_4)), .ref b], M)) rfl ?_
                refine ml_call (a := [.ref b, .int ((u1 + 8) + (2 * i66_4))]) (rest := []) rfl (okc_t rfl rfl rfl hS.1 hY2 (by decide)) rfl rfl (tq_u2 hS.1 hY2 (by omega)) (fun v14 M15 h16 => ?_)
                obtain ⟨⟨u17, rfl⟩, h16⟩ := h16
                rw [h16]
                show ml _ _ _ (85, [(0, .ref a), (1, .int (u1 + 8)), (2, .int i13_2), (3, .int u8), (4, .int i66_4)], [.int u17], M) _
                refine ml_st (S' := (87, [(5, .int u17), (0, .ref a), (1, .int (u1 + 8)), (2, .int i13_2), (3, .int u8), (4, .int i66_4)], [], M)) rfl rfl rfl ?_
                refine ml_st (S' := (88, [(5, .int u17), (0, .ref a), (1, .int (u1 + 8)), (2, .int i13_2), (3, .int u8), (4, .int i66_4)], [.ref a], M)) rfl rfl rfl ?_
                refine tg_ref (S' := (91, [(5, .int u17), (0, .ref a), (1, .int (u1 + 8)), (2, .int i13_2), (3, .int u8), (4, .int i66_4)], [.ref p], M)) rfl hS.1 hY0 (by decide) rfl rfl ?_
                refine ml_st (S' := (92, [(5, .int u17), (0, .ref a), (1, .int (u1 + 8)), (2, .int i13_2), (3, .int u8), (4, .int i66_4)], [.ref a, .ref p], M)) rfl rfl rfl ?_
                refine tg_ref (S' := (95, [(5, .int u17), (0, .ref a), (1, .int (u1 + 8)), (2, .int i13_2), (3, .int u8), (4, .int i66_4)], [.ref p, .ref p], M)) rfl hS.1 hY0 (by decide) rfl rfl ?_
                refine ml_st (S' := (97, [(5, .int u17), (0, .ref a), (1, .int (u1 + 8)), (2, .int i13_2), (3, .int u8), (4, .int i66_4)], [.int u17, .ref p, .ref p], M)) rfl rfl rfl ?_
                refine ml_call (a := [.ref p, .int u17]) (rest := [.ref p]) rfl (okc_t rfl rfl rfl hS.1 hY3 (by decide)) rfl rfl (tq_firstIndex hS.1 hY3 (by omega)) (fun v18 M19 h20 => ?_)
                obtain ⟨⟨u21, rfl⟩, h20⟩ := h20
                rw [h20]
                show ml _ _ _ (100, [(5, .int u17), (0, .ref a), (1, .int (u1 + 8)), (2, .int i13_2), (3, .int u8), (4, .int i66_4)], [.int u21, .ref p], M) _
                refine ml_st (S' := (101, [(5, .int u17), (0, .ref a), (1, .int (u1 + 8)), (2, .int i13_2), (3, .int u8), (4, .int i66_4)], [.ref a, .int u21, .ref p], M)) rfl rfl rfl ?_
                refine tg_ref (S' := (104, [(5, .int u17), (0, .ref a), (1, .int (u1 + 8)), (2, .int i13_2), (3, .int u8), (4, .int i66_4)], [.ref p, .int u21, .ref p], M)) rfl hS.1 hY0 (by decide) rfl rfl ?_
                refine ml_st (S' := (105, [(5, .int u17), (0, .ref a), (1, .int (u1 + 8)), (2, .int i13_2), (3, .int u8), (4, .int i66_4)], [.int u8, .ref p, .int u21, .ref p], M)) rfl rfl rfl ?_
                refine ml_call (a := [.ref p, .int u8]) (rest := [.int u21, .ref p]) rfl (okc_t rfl rfl rfl hS.1 hY3 (by decide)) rfl rfl (tq_firstIndex hS.1 hY3 (by omega)) (fun v22 M23 h24 => ?_)
                obtain ⟨⟨u25, rfl⟩, h24⟩ := h24
                rw [h24]
                show ml _ _ _ (108, [(5, .int u17), (0, .ref a), (1, .int (u1 + 8)), (2, .int i13_2), (3, .int u8), (4, .int i66_4)], [.int u25, .int u21, .ref p], M) _
                refine ml_call (a := [.ref p, .int u21, .int u25]) (rest := []) rfl (okc_t rfl rfl rfl hS.1 hY3 (by decide)) rfl rfl (tq_sameText hS.1 hY3 (by omega)) (fun v26 M27 h28 => ?_)
                obtain ⟨⟨u29, rfl, z30⟩, h28⟩ := h28
                rw [h28]
                show ml _ _ _ (111, [(5, .int u17), (0, .ref a), (1, .int (u1 + 8)), (2, .int i13_2), (3, .int u8), (4, .int i66_4)], [.int u29], M) _
                refine ml_if (S1 := (129, [(5, .int u17), (0, .ref a), (1, .int (u1 + 8)), (2, .int i13_2), (3, .int u8), (4, .int i66_4)], [], M)) (S2 := (114, [(5, .int u17), (0, .ref a), (1, .int (u1 + 8)), (2, .int i13_2), (3, .int u8), (4, .int i66_4)], [], M)) rfl rfl rfl (fun c_111 => ?_) (fun c_111 => ?_)
                · have c_111 : u29 = 0 := of_decide_eq_true c_111
                  refine ml_st (S' := (132, [(4, .int (i66_4 + 1)), (5, .int u17), (0, .ref a), (1, .int (u1 + 8)), (2, .int i13_2), (3, .int u8)], [], M)) rfl rfl rfl ?_
                  refine ml_st (S' := (66, [(0, .ref a), (1, .int (u1 + 8)), (2, .int i13_2), (3, .int u8), (4, .int (i66_4 + 1))], [], M)) rfl rfl rfl ?_
                  exact ih_66 (i66_4 + 1) (loop_inc (Int32.not_le.mp c_69) hn_66) 
                · have c_111 : ¬ (u29 = 0) := of_decide_eq_false c_111
                  refine ml_st (S' := (115, [(5, .int u17), (0, .ref a), (1, .int (u1 + 8)), (2, .int i13_2), (3, .int u8), (4, .int i66_4)], [.ref a], M)) rfl rfl rfl ?_
                  refine tg_ref (S' := (118, [(5, .int u17), (0, .ref a), (1, .int (u1 + 8)), (2, .int i13_2), (3, .int u8), (4, .int i66_4)], [.ref vd], M)) rfl hS.1 hY0 (by decide) rfl rfl ?_
                  refine ml_blk 3 (S' := (122, [(5, .int u17), (0, .ref a), (1, .int (u1 + 8)), (2, .int i13_2), (3, .int u8), (4, .int i66_4)], [.int 2, .int (u1 + 8), .int 18, .ref vd], M)) rfl ?_
                  refine ml_blk 3 (S' := (125, [(5, .int u17), (0, .ref a), (1, .int (u1 + 8)), (2, .int i13_2), (3, .int u8), (4, .int i66_4)], [.int ((u1 + 8) + (2 * i13_2)), .int 18, .ref vd], M)) rfl ?_
                  refine ml_call (a := [.ref vd, .int 18, .int ((u1 + 8) + (2 * i13_2))]) (rest := []) rfl (okc_t rfl rfl rfl hS.1 hY4 (by decide)) rfl rfl (tw_Ve_wrong hS.1 hY4 (by omega)) (fun v31 M32 h33 => ?_)
                  obtain ⟨rfl, h33⟩ := h33
                  have hS35 := hS.tr h33.1
                  show ml _ _ _ (128, [(5, .int u17), (0, .ref a), (1, .int (u1 + 8)), (2, .int i13_2), (3, .int u8), (4, .int i66_4)], [.int 0], M32) _
                  exact ml_ret rfl (r_z (Or.inl rfl)) (⟨⟨_, rfl, Or.inl rfl⟩, hS35⟩)
          exact L_66 _ 0 (Nat.le_refl _) 
        · have c_45 : ¬ (¬ u12 = 0) := of_decide_eq_false c_45
          refine ml_st (S' := (49, [(3, .int u8), (0, .ref a), (1, .int (u1 + 8)), (2, .int i13_2)], [.ref a], M)) rfl rfl rfl ?_
          refine tg_ref (S' := (52, [(3, .int u8), (0, .ref a), (1, .int (u1 + 8)), (2, .int i13_2)], [.ref vd], M)) rfl hS.1 hY0 (by decide) rfl rfl ?_
          refine ml_blk 3 (S' := (56, [(3, .int u8), (0, .ref a), (1, .int (u1 + 8)), (2, .int i13_2)], [.int 2, .int (u1 + 8), .int 18, .ref vd], M)) rfl ?_
          refine ml_blk 3 (S' := (59, [(3, .int u8), (0, .ref a), (1, .int (u1 + 8)), (2, .int i13_2)], [.int ((u1 + 8) + (2 * i13_2)), .int 18, .ref vd], M)) rfl ?_
          refine ml_call (a := [.ref vd, .int 18, .int ((u1 + 8) + (2 * i13_2))]) (rest := []) rfl (okc_t rfl rfl rfl hS.1 hY4 (by decide)) rfl rfl (tw_Ve_wrong hS.1 hY4 (by omega)) (fun v36 M37 h38 => ?_)
          obtain ⟨rfl, h38⟩ := h38
          have hS40 := hS.tr h38.1
          show ml _ _ _ (62, [(3, .int u8), (0, .ref a), (1, .int (u1 + 8)), (2, .int i13_2)], [.int 0], M37) _
          exact ml_ret rfl (r_z (Or.inl rfl)) (⟨⟨_, rfl, Or.inl rfl⟩, hS40⟩)
  exact L_13 _ 0 (Nat.le_refl _) 
