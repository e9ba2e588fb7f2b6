set_option maxHeartbeats 2000000 in
theorem tw_Cl_fieldFlagsHold {g : xe_G} {M : mi_H} {Y : yT} {a c b p vd ac da n : Nat} {pp : List Nat} {x1 : Int32}  (hW : WF g Y M) (hY0 : Y.1 a = some (2, [c, b, p, vd, ac])) (hY1 : Y.1 c = some (3, [b, da, n])) (hY2 : Y.1 b = some (1, [da, n])) (hY3 : Y.1 p = some (7, pp)) (hY4 : Y.1 vd = some (10, [])) (hY5 : Y.1 ac = some (0, [c, b, p, vd])) {d : Nat} (hd : 3 ≤ d) : mt (mT g) d 55 [.ref a, .int x1] M (pZ M) := by
  obtain ⟨d, rfl⟩ : ∃ e, d = e + 1 := ⟨d - 1, by omega⟩
  have hS : st g Y M M := st.rf hW
  refine mt_in (b := mb_55 g) rfl rfl ?_
  show ml (mT g) d (mb_55 g).2 (0, [(0, .ref a), (1, .int x1)], [], M) _
  refine ml_st (S' := (1, [(0, .ref a), (1, .int x1)], [.ref a], M)) rfl rfl rfl ?_
  refine tg_ref (S' := (4, [(0, .ref a), (1, .int x1)], [.ref c], M)) rfl hS.1 hY0 (by decide) rfl rfl ?_
  refine ml_st (S' := (7, [(0, .ref a), (1, .int x1)], [.int 512, .ref c], M)) rfl rfl rfl ?_
  refine ml_call (a := [.ref c, .int 512]) (rest := []) rfl (okc_t rfl rfl rfl hS.1 hY1 (by decide)) rfl rfl (tw_Cl_has hS.1 hY1 hY2 (by omega)) (fun v1 M2 h3 => ?_)
  obtain ⟨⟨u4, rfl, z5⟩, h3⟩ := h3
  rw [h3]
  show ml _ _ _ (10, [(0, .ref a), (1, .int x1)], [.int u4], M) _
  refine ml_if (S1 := (31, [(0, .ref a), (1, .int x1)], [], M)) (S2 := (13, [(0, .ref a), (1, .int x1)], [], M)) rfl rfl rfl (fun c_10 => ?_) (fun c_10 => ?_)
  · have c_10 : u4 = 0 := of_decide_eq_true c_10
    refine ml_st (S' := (32, [(0, .ref a), (1, .int x1)], [.int x1], M)) rfl rfl rfl ?_
    refine ml_call (a := [.int x1]) (rest := []) rfl (rfl) rfl rfl (tw_Cl_hasOneAccessAtMost hS.1  (by omega)) (fun v6 M7 h8 => ?_)
    obtain ⟨⟨u9, rfl, z10⟩, h8⟩ := h8
    rw [h8]
    show ml _ _ _ (35, [(0, .ref a), (1, .int x1)], [.int u9], M) _
    refine ml_if (S1 := (51, [], [], M)) (S2 := (38, [(0, .ref a), (1, .int x1)], [], M)) rfl rfl rfl (fun c_35 => ?_) (fun c_35 => ?_)
    · have c_35 : u9 = 0 := of_decide_eq_true c_35
      refine ml_st (S' := (52, [], [.int 0], M)) rfl rfl rfl ?_
      exact ml_ret rfl (r_z (Or.inl rfl)) (⟨⟨_, rfl, Or.inl rfl⟩, rfl⟩)
    · have c_35 : ¬ (u9 = 0) := of_decide_eq_false c_35
      refine ml_blk 2 (S' := (41, [(0, .ref a), (1, .int x1)], [.int 80, .int x1], M)) rfl ?_
      refine ml_call (a := [.int x1, .int 80]) (rest := []) rfl (rfl) rfl rfl (tw_Cl_hasAll hS.1  (by omega)) (fun v11 M12 h13 => ?_)
      obtain ⟨⟨u14, rfl, z15⟩, h13⟩ := h13
      rw [h13]
      show ml _ _ _ (44, [(0, .ref a), (1, .int x1)], [.int u14], M) _
      refine ml_if (S1 := (51, [], [], M)) (S2 := (47, [(0, .ref a), (1, .int x1)], [], M)) rfl rfl rfl (fun c_44 => ?_) (fun c_44 => ?_)
      · have c_44 : ¬ u14 = 0 := of_decide_eq_true c_44
        refine ml_st (S' := (52, [], [.int 0], M)) rfl rfl rfl ?_
        exact ml_ret rfl (r_z (Or.inl rfl)) (⟨⟨_, rfl, Or.inl rfl⟩, rfl⟩)
      · have c_44 : ¬ (¬ u14 = 0) := of_decide_eq_false c_44
        refine ml_st (S' := (48, [(0, .ref a), (1, .int x1)], [.int 1], M)) rfl rfl rfl ?_
        refine ml_st (S' := (52, [], [.int 1], M)) rfl rfl rfl ?_
        exact ml_ret rfl (r_z (Or.inr rfl)) (⟨⟨_, rfl, Or.inr rfl⟩, rfl⟩)
  · have c_10 : ¬ (u4 = 0) := of_decide_eq_false c_10
    refine ml_st (S' := (16, [(0, .ref a), (1, .int x1)], [.int 16607], M)) rfl rfl rfl ?_
    refine ml_st (S' := (17, [(2, .int 16607), (0, .ref a), (1, .int x1)], [], M)) rfl rfl rfl ?_
    refine ml_blk 3 (S' := (20, [(2, .int 16607), (0, .ref a), (1, .int x1)], [.int (x1 &&& 16607)], M)) rfl ?_
    refine ml_st (S' := (22, [(2, .int 16607), (0, .ref a), (1, .int x1)], [.int 25, .int (x1 &&& 16607)], M)) rfl rfl rfl ?_
    refine ml_if2 (S1 := (29, [(2, .int 16607), (0, .ref a), (1, .int x1)], [], M)) (S2 := (25, [(2, .int 16607), (0, .ref a), (1, .int x1)], [], M)) rfl rfl rfl (fun c_22 => ?_) (fun c_22 => ?_)
    · have c_22 : ¬ (x1 &&& 16607) = 25 := of_decide_eq_true c_22
      refine ml_st (S' := (30, [], [.int 0], M)) rfl rfl rfl ?_
      exact ml_ret rfl (r_z (Or.inl rfl)) (⟨⟨_, rfl, Or.inl rfl⟩, rfl⟩)
    · have c_22 : ¬ (¬ (x1 &&& 16607) = 25) := of_decide_eq_false c_22
      refine ml_st (S' := (26, [(2, .int 16607), (0, .ref a), (1, .int x1)], [.int 1], M)) rfl rfl rfl ?_
      refine ml_st (S' := (30, [], [.int 1], M)) rfl rfl rfl ?_
      exact ml_ret rfl (r_z (Or.inr rfl)) (⟨⟨_, rfl, Or.inr rfl⟩, rfl⟩)
set_option maxHeartbeats 2000000 in
theorem tw_Cl_abstractHolds {g : xe_G} {M : mi_H} {Y : yT} {a c b p vd ac da n me : Nat} {pp : List Nat}  (hW : WF g Y M) (hY0 : Y.1 a = some (2, [c, b, p, vd, ac])) (hY1 : Y.1 c = some (3, [b, da, n])) (hY2 : Y.1 b = some (1, [da, n])) (hY3 : Y.1 p = some (7, pp)) (hY4 : Y.1 vd = some (10, [])) (hY5 : Y.1 ac = some (0, [c, b, p, vd])) (hY6 : Y.1 me = some (6, [da, n])) {d : Nat} (hd : 2 ≤ d) : mt (mT g) d 52 [.ref a, .ref me] M (pZ M) := by
  obtain ⟨d, rfl⟩ : ∃ e, d = e + 1 := ⟨d - 1, by omega⟩
  have hS : st g Y M M := st.rf hW
  refine mt_in (b := mb_52 g) rfl rfl ?_
  show ml (mT g) d (mb_52 g).2 (0, [(0, .ref a), (1, .ref me)], [], M) _
  refine ml_blk 2 (S' := (4, [(0, .ref a), (1, .ref me)], [.int 314, .ref me], M)) rfl ?_
  refine ml_call (a := [.ref me, .int 314]) (rest := []) rfl (okc_t rfl rfl rfl hS.1 hY6 (by decide)) rfl rfl (tw_Me_has hS.1 hY6 (by omega)) (fun v1 M2 h3 => ?_)
  obtain ⟨⟨u4, rfl, z5⟩, h3⟩ := h3
  rw [h3]
  show ml _ _ _ (7, [(0, .ref a), (1, .ref me)], [.int u4], M) _
  refine ml_if (S1 := (12, [(0, .ref a), (1, .ref me)], [], M)) (S2 := (10, [(0, .ref a), (1, .ref me)], [], M)) rfl rfl rfl (fun c_7 => ?_) (fun c_7 => ?_)
  · have c_7 : u4 = 0 := of_decide_eq_true c_7
    refine ml_st (S' := (13, [(0, .ref a), (1, .ref me)], [.ref a], M)) rfl rfl rfl ?_
    refine tg_ref (S' := (16, [(0, .ref a), (1, .ref me)], [.ref c], M)) rfl hS.1 hY0 (by decide) rfl rfl ?_
    refine tg_int rfl hS.1 hY1 (by decide) rfl (fun u6 g7 => ?_)
    show ml _ _ _ (19, [(0, .ref a), (1, .ref me)], [.int u6], M) _
    refine ml_st (S' := (21, [(0, .ref a), (1, .ref me)], [.int 46, .int u6], M)) rfl rfl rfl ?_
    refine ml_if2 (S1 := (46, [], [], M)) (S2 := (24, [(0, .ref a), (1, .ref me)], [], M)) rfl rfl rfl (fun c_21 => ?_) (fun c_21 => ?_)
    · have c_21 : u6 < 46 := of_decide_eq_true c_21
      refine ml_st (S' := (47, [], [.int 1], M)) rfl rfl rfl ?_
      refine ml_st (S' := (51, [], [.int 1], M)) rfl rfl rfl ?_
      exact ml_ret rfl (r_z (Or.inr rfl)) (⟨⟨_, rfl, Or.inr rfl⟩, rfl⟩)
    · have c_21 : ¬ (u6 < 46) := of_decide_eq_false c_21
      refine ml_st (S' := (25, [(0, .ref a), (1, .ref me)], [.ref a], M)) rfl rfl rfl ?_
      refine tg_ref (S' := (28, [(0, .ref a), (1, .ref me)], [.ref c], M)) rfl hS.1 hY0 (by decide) rfl rfl ?_
      refine ml_get (S' := (31, [(0, .ref a), (1, .ref me)], [.int u6], M)) rfl g7 rfl ?_
      refine ml_st (S' := (33, [(0, .ref a), (1, .ref me)], [.int 60, .int u6], M)) rfl rfl rfl ?_
      refine ml_if2 (S1 := (46, [], [], M)) (S2 := (36, [(0, .ref a), (1, .ref me)], [], M)) rfl rfl rfl (fun c_33 => ?_) (fun c_33 => ?_)
      · have c_33 : 60 < u6 := of_decide_eq_true c_33
        refine ml_st (S' := (47, [], [.int 1], M)) rfl rfl rfl ?_
        refine ml_st (S' := (51, [], [.int 1], M)) rfl rfl rfl ?_
        exact ml_ret rfl (r_z (Or.inr rfl)) (⟨⟨_, rfl, Or.inr rfl⟩, rfl⟩)
      · have c_33 : ¬ (60 < u6) := of_decide_eq_false c_33
        refine ml_blk 2 (S' := (40, [(0, .ref a), (1, .ref me)], [.int 2048, .ref me], M)) rfl ?_
        refine ml_call (a := [.ref me, .int 2048]) (rest := []) rfl (okc_t rfl rfl rfl hS.1 hY6 (by decide)) rfl rfl (tw_Me_has hS.1 hY6 (by omega)) (fun v8 M9 h10 => ?_)
        obtain ⟨⟨u11, rfl, z12⟩, h10⟩ := h10
        rw [h10]
        show ml _ _ _ (43, [(0, .ref a), (1, .ref me)], [.int u11], M) _
        refine ml_if (S1 := (50, [(0, .ref a), (1, .ref me)], [], M)) (S2 := (46, [], [], M)) rfl rfl rfl (fun c_43 => ?_) (fun c_43 => ?_)
        · have c_43 : ¬ u11 = 0 := of_decide_eq_true c_43
          refine ml_st (S' := (51, [], [.int 0], M)) rfl rfl rfl ?_
          exact ml_ret rfl (r_z (Or.inl rfl)) (⟨⟨_, rfl, Or.inl rfl⟩, rfl⟩)
        · have c_43 : ¬ (¬ u11 = 0) := of_decide_eq_false c_43
          refine ml_st (S' := (47, [], [.int 1], M)) rfl rfl rfl ?_
          refine ml_st (S' := (51, [], [.int 1], M)) rfl rfl rfl ?_
          exact ml_ret rfl (r_z (Or.inr rfl)) (⟨⟨_, rfl, Or.inr rfl⟩, rfl⟩)
  · have c_7 : ¬ (u4 = 0) := of_decide_eq_false c_7
    refine ml_st (S' := (11, [(0, .ref a), (1, .ref me)], [.int 0], M)) rfl rfl rfl ?_
    exact ml_ret rfl (r_z (Or.inl rfl)) (⟨⟨_, rfl, Or.inl rfl⟩, rfl⟩)
set_option maxHeartbeats 2000000 in
theorem tw_Cl_interfaceMethodHolds {g : xe_G} {M : mi_H} {Y : yT} {a c b p vd ac da n me : Nat} {pp : List Nat}  (hW : WF g Y M) (hY0 : Y.1 a = some (2, [c, b, p, vd, ac])) (hY1 : Y.1 c = some (3, [b, da, n])) (hY2 : Y.1 b = some (1, [da, n])) (hY3 : Y.1 p = some (7, pp)) (hY4 : Y.1 vd = some (10, [])) (hY5 : Y.1 ac = some (0, [c, b, p, vd])) (hY6 : Y.1 me = some (6, [da, n])) {d : Nat} (hd : 2 ≤ d) : mt (mT g) d 61 [.ref a, .ref me] M (pZ M) := by
  obtain ⟨d, rfl⟩ : ∃ e, d = e + 1 := ⟨d - 1, by omega⟩
  have hS : st g Y M M := st.rf hW
  refine mt_in (b := mb_61 g) rfl rfl ?_
  show ml (mT g) d (mb_61 g).2 (0, [(0, .ref a), (1, .ref me)], [], M) _
  refine ml_blk 2 (S' := (4, [(0, .ref a), (1, .ref me)], [.int 308, .ref me], M)) rfl ?_
  refine ml_call (a := [.ref me, .int 308]) (rest := []) rfl (okc_t rfl rfl rfl hS.1 hY6 (by decide)) rfl rfl (tw_Me_has hS.1 hY6 (by omega)) (fun v1 M2 h3 => ?_)
  obtain ⟨⟨u4, rfl, z5⟩, h3⟩ := h3
  rw [h3]
  show ml _ _ _ (7, [(0, .ref a), (1, .ref me)], [.int u4], M) _
  refine ml_if (S1 := (12, [(0, .ref a), (1, .ref me)], [], M)) (S2 := (10, [(0, .ref a), (1, .ref me)], [], M)) rfl rfl rfl (fun c_7 => ?_) (fun c_7 => ?_)
  · have c_7 : u4 = 0 := of_decide_eq_true c_7
    refine ml_st (S' := (13, [(0, .ref a), (1, .ref me)], [.ref a], M)) rfl rfl rfl ?_
    refine tg_ref (S' := (16, [(0, .ref a), (1, .ref me)], [.ref c], M)) rfl hS.1 hY0 (by decide) rfl rfl ?_
    refine tg_int rfl hS.1 hY1 (by decide) rfl (fun u6 g7 => ?_)
    show ml _ _ _ (19, [(0, .ref a), (1, .ref me)], [.int u6], M) _
    refine ml_st (S' := (21, [(0, .ref a), (1, .ref me)], [.int 52, .int u6], M)) rfl rfl rfl ?_
    refine ml_if2 (S1 := (52, [(0, .ref a), (1, .ref me)], [], M)) (S2 := (24, [(0, .ref a), (1, .ref me)], [], M)) rfl rfl rfl (fun c_21 => ?_) (fun c_21 => ?_)
    · have c_21 : 52 ≤ u6 := of_decide_eq_true c_21
      refine ml_blk 2 (S' := (54, [(0, .ref a), (1, .ref me)], [.int 1, .ref me], M)) rfl ?_
      refine ml_call (a := [.ref me, .int 1]) (rest := []) rfl (okc_t rfl rfl rfl hS.1 hY6 (by decide)) rfl rfl (tw_Me_has hS.1 hY6 (by omega)) (fun v8 M9 h10 => ?_)
      obtain ⟨⟨u11, rfl, z12⟩, h10⟩ := h10
      rw [h10]
      show ml _ _ _ (57, [(0, .ref a), (1, .ref me)], [.int u11], M) _
      refine ml_blk 2 (S' := (59, [(0, .ref a), (1, .ref me)], [.int 2, .ref me, .int u11], M)) rfl ?_
      refine ml_call (a := [.ref me, .int 2]) (rest := [.int u11]) rfl (okc_t rfl rfl rfl hS.1 hY6 (by decide)) rfl rfl (tw_Me_has hS.1 hY6 (by omega)) (fun v13 M14 h15 => ?_)
      obtain ⟨⟨u16, rfl, z17⟩, h15⟩ := h15
      rw [h15]
      show ml _ _ _ (62, [(0, .ref a), (1, .ref me)], [.int u16, .int u11], M) _
      refine ml_if2 (S1 := (69, [(0, .ref a), (1, .ref me)], [], M)) (S2 := (65, [(0, .ref a), (1, .ref me)], [], M)) rfl rfl rfl (fun c_62 => ?_) (fun c_62 => ?_)
      · have c_62 : u11 = u16 := of_decide_eq_true c_62
        refine ml_st (S' := (70, [], [.int 0], M)) rfl rfl rfl ?_
        exact ml_ret rfl (r_z (Or.inl rfl)) (⟨⟨_, rfl, Or.inl rfl⟩, rfl⟩)
      · have c_62 : ¬ (u11 = u16) := of_decide_eq_false c_62
        refine ml_st (S' := (66, [(0, .ref a), (1, .ref me)], [.int 1], M)) rfl rfl rfl ?_
        refine ml_st (S' := (70, [], [.int 1], M)) rfl rfl rfl ?_
        exact ml_ret rfl (r_z (Or.inr rfl)) (⟨⟨_, rfl, Or.inr rfl⟩, rfl⟩)
    · have c_21 : ¬ (52 ≤ u6) := of_decide_eq_false c_21
      refine ml_st (S' := (25, [(0, .ref a), (1, .ref me)], [.ref me], M)) rfl rfl rfl ?_
      refine tg_int rfl hS.1 hY6 (by decide) rfl (fun u18 g19 => ?_)
      show ml _ _ _ (28, [(0, .ref a), (1, .ref me)], [.int u18], M) _
      refine ml_st (S' := (31, [(0, .ref a), (1, .ref me)], [.int 1025, .int u18], M)) rfl rfl rfl ?_
      refine ml_call (a := [.int u18, .int 1025]) (rest := []) rfl (rfl) rfl rfl (tw_Cl_hasAll hS.1  (by omega)) (fun v20 M21 h22 => ?_)
      obtain ⟨⟨u23, rfl, z24⟩, h22⟩ := h22
      rw [h22]
      show ml _ _ _ (34, [(0, .ref a), (1, .ref me)], [.int u23], M) _
      refine ml_if (S1 := (50, [], [], M)) (S2 := (37, [(0, .ref a), (1, .ref me)], [], M)) rfl rfl rfl (fun c_34 => ?_) (fun c_34 => ?_)
      · have c_34 : u23 = 0 := of_decide_eq_true c_34
        refine ml_st (S' := (51, [], [.int 0], M)) rfl rfl rfl ?_
        exact ml_ret rfl (r_z (Or.inl rfl)) (⟨⟨_, rfl, Or.inl rfl⟩, rfl⟩)
      · have c_34 : ¬ (u23 = 0) := of_decide_eq_false c_34
        refine ml_blk 2 (S' := (40, [(0, .ref a), (1, .ref me)], [.int 8, .ref me], M)) rfl ?_
        refine ml_call (a := [.ref me, .int 8]) (rest := []) rfl (okc_t rfl rfl rfl hS.1 hY6 (by decide)) rfl rfl (tw_Me_has hS.1 hY6 (by omega)) (fun v25 M26 h27 => ?_)
        obtain ⟨⟨u28, rfl, z29⟩, h27⟩ := h27
        rw [h27]
        show ml _ _ _ (43, [(0, .ref a), (1, .ref me)], [.int u28], M) _
        refine ml_if (S1 := (50, [], [], M)) (S2 := (46, [(0, .ref a), (1, .ref me)], [], M)) rfl rfl rfl (fun c_43 => ?_) (fun c_43 => ?_)
        · have c_43 : ¬ u28 = 0 := of_decide_eq_true c_43
          refine ml_st (S' := (51, [], [.int 0], M)) rfl rfl rfl ?_
          exact ml_ret rfl (r_z (Or.inl rfl)) (⟨⟨_, rfl, Or.inl rfl⟩, rfl⟩)
        · have c_43 : ¬ (¬ u28 = 0) := of_decide_eq_false c_43
          refine ml_st (S' := (47, [(0, .ref a), (1, .ref me)], [.int 1], M)) rfl rfl rfl ?_
          refine ml_st (S' := (51, [], [.int 1], M)) rfl rfl rfl ?_
          exact ml_ret rfl (r_z (Or.inr rfl)) (⟨⟨_, rfl, Or.inr rfl⟩, rfl⟩)
  · have c_7 : ¬ (u4 = 0) := of_decide_eq_false c_7
    refine ml_st (S' := (11, [(0, .ref a), (1, .ref me)], [.int 0], M)) rfl rfl rfl ?_
    exact ml_ret rfl (r_z (Or.inl rfl)) (⟨⟨_, rfl, Or.inl rfl⟩, rfl⟩)
set_option maxHeartbeats 2000000 in
theorem tw_Cl_methodDescriptorHolds {g : xe_G} {M : mi_H} {Y : yT} {a c b p vd ac da n me : Nat} {pp : List Nat}  (hW : WF g Y M) (hY0 : Y.1 a = some (2, [c, b, p, vd, ac])) (hY1 : Y.1 c = some (3, [b, da, n])) (hY2 : Y.1 b = some (1, [da, n])) (hY3 : Y.1 p = some (7, pp)) (hY4 : Y.1 vd = some (10, [])) (hY5 : Y.1 ac = some (0, [c, b, p, vd])) (hY6 : Y.1 me = some (6, [da, n])) {d : Nat} (hd : 4 ≤ d) : mt (mT g) d 63 [.ref a, .ref me] M (pZ M) := by
  obtain ⟨d, rfl⟩ : ∃ e, d = e + 1 := ⟨d - 1, by omega⟩
  have hS : st g Y M M := st.rf hW
  refine mt_in (b := mb_63 g) rfl rfl ?_
  show ml (mT g) d (mb_63 g).2 (0, [(0, .ref a), (1, .ref me)], [], M) _
  refine ml_st (S' := (1, [(0, .ref a), (1, .ref me)], [.ref a], M)) rfl rfl rfl ?_
  refine tg_ref (S' := (4, [(0, .ref a), (1, .ref me)], [.ref p], M)) rfl hS.1 hY0 (by decide) rfl rfl ?_
  refine ml_st (S' := (5, [(0, .ref a), (1, .ref me)], [.ref me, .ref p], M)) rfl rfl rfl ?_
  refine tg_int rfl hS.1 hY6 (by decide) rfl (fun u1 g2 => ?_)
  show ml _ _ _ (8, [(0, .ref a), (1, .ref me)], [.int u1, .ref p], M) _
  refine ml_call (a := [.ref p, .int u1]) (rest := []) rfl (okc_t rfl rfl rfl hS.1 hY3 (by decide)) rfl rfl (tq_isMethodDescriptor hS.1 hY3 (by omega)) (fun v3 M4 h5 => ?_)
  obtain ⟨⟨u6, rfl, z7⟩, h5⟩ := h5
  rw [h5]
  show ml _ _ _ (11, [(0, .ref a), (1, .ref me)], [.int u6], M) _
  refine ml_if (S1 := (24, [], [], M)) (S2 := (14, [(0, .ref a), (1, .ref me)], [], M)) rfl rfl rfl (fun c_11 => ?_) (fun c_11 => ?_)
  · have c_11 : u6 = 0 := of_decide_eq_true c_11
    refine ml_st (S' := (25, [], [.int 0], M)) rfl rfl rfl ?_
    exact ml_ret rfl (r_z (Or.inl rfl)) (⟨⟨_, rfl, Or.inl rfl⟩, rfl⟩)
  · have c_11 : ¬ (u6 = 0) := of_decide_eq_false c_11
    refine ml_st (S' := (15, [(0, .ref a), (1, .ref me)], [.ref me], M)) rfl rfl rfl ?_
    refine tg_int rfl hS.1 hY6 (by decide) rfl (fun u8 g9 => ?_)
    show ml _ _ _ (18, [(0, .ref a), (1, .ref me)], [.int u8], M) _
    refine ml_st (S' := (21, [(0, .ref a), (1, .ref me)], [.int 255, .int u8], M)) rfl rfl rfl ?_
    refine ml_if2 (S1 := (26, [(0, .ref a), (1, .ref me)], [], M)) (S2 := (24, [], [], M)) rfl rfl rfl (fun c_21 => ?_) (fun c_21 => ?_)
    · have c_21 : u8 ≤ 255 := of_decide_eq_true c_21
      refine ml_st (S' := (27, [(0, .ref a), (1, .ref me)], [.ref a], M)) rfl rfl rfl ?_
      refine tg_ref (S' := (30, [(0, .ref a), (1, .ref me)], [.ref p], M)) rfl hS.1 hY0 (by decide) rfl rfl ?_
      refine ml_st (S' := (31, [(0, .ref a), (1, .ref me)], [.ref me, .ref p], M)) rfl rfl rfl ?_
      refine tg_int rfl hS.1 hY6 (by decide) rfl (fun u10 g11 => ?_)
      show ml _ _ _ (34, [(0, .ref a), (1, .ref me)], [.int u10, .ref p], M) _
      refine ml_st (S' := (36, [(0, .ref a), (1, .ref me)], [.ref (g.2.1 12), .int u10, .ref p], M)) rfl rfl rfl ?_
      refine ml_call (a := [.ref p, .int u10, .ref (g.2.1 12)]) (rest := []) rfl (okc_t rfl rfl rfl hS.1 hY3 (by decide)) rfl rfl (tq_textIs (lk := 12) hS.1 hY3 (by decide) (by omega)) (fun v12 M13 h14 => ?_)
      obtain ⟨⟨x15, rfl, z16⟩, h14⟩ := h14
      rw [h14]
      show ml _ _ _ (39, [(0, .ref a), (1, .ref me)], [.int x15], M) _
      refine ml_if (S1 := (56, [], [], M)) (S2 := (42, [(0, .ref a), (1, .ref me)], [], M)) rfl rfl rfl (fun c_39 => ?_) (fun c_39 => ?_)
      · have c_39 : x15 = 0 := of_decide_eq_true c_39
        refine ml_st (S' := (57, [], [.int 1], M)) rfl rfl rfl ?_
        refine ml_st (S' := (61, [], [.int 1], M)) rfl rfl rfl ?_
        exact ml_ret rfl (r_z (Or.inr rfl)) (⟨⟨_, rfl, Or.inr rfl⟩, rfl⟩)
      · have c_39 : ¬ (x15 = 0) := of_decide_eq_false c_39
        refine ml_st (S' := (43, [(0, .ref a), (1, .ref me)], [.ref a], M)) rfl rfl rfl ?_
        refine tg_ref (S' := (46, [(0, .ref a), (1, .ref me)], [.ref p], M)) rfl hS.1 hY0 (by decide) rfl rfl ?_
        refine ml_st (S' := (47, [(0, .ref a), (1, .ref me)], [.ref me, .ref p], M)) rfl rfl rfl ?_
        refine ml_get (S' := (50, [(0, .ref a), (1, .ref me)], [.int u1, .ref p], M)) rfl g2 rfl ?_
        refine ml_call (a := [.ref p, .int u1]) (rest := []) rfl (okc_t rfl rfl rfl hS.1 hY3 (by decide)) rfl rfl (tq_hasNoResult hS.1 hY3 (by omega)) (fun v17 M18 h19 => ?_)
        obtain ⟨⟨u20, rfl, z21⟩, h19⟩ := h19
        rw [h19]
        show ml _ _ _ (53, [(0, .ref a), (1, .ref me)], [.int u20], M) _
        refine ml_if (S1 := (60, [(0, .ref a), (1, .ref me)], [], M)) (S2 := (56, [], [], M)) rfl rfl rfl (fun c_53 => ?_) (fun c_53 => ?_)
        · have c_53 : u20 = 0 := of_decide_eq_true c_53
          refine ml_st (S' := (61, [], [.int 0], M)) rfl rfl rfl ?_
          exact ml_ret rfl (r_z (Or.inl rfl)) (⟨⟨_, rfl, Or.inl rfl⟩, rfl⟩)
        · have c_53 : ¬ (u20 = 0) := of_decide_eq_false c_53
          refine ml_st (S' := (57, [], [.int 1], M)) rfl rfl rfl ?_
          refine ml_st (S' := (61, [], [.int 1], M)) rfl rfl rfl ?_
          exact ml_ret rfl (r_z (Or.inr rfl)) (⟨⟨_, rfl, Or.inr rfl⟩, rfl⟩)
    · have c_21 : ¬ (u8 ≤ 255) := of_decide_eq_false c_21
      refine ml_st (S' := (25, [], [.int 0], M)) rfl rfl rfl ?_
      exact ml_ret rfl (r_z (Or.inl rfl)) (⟨⟨_, rfl, Or.inl rfl⟩, rfl⟩)
set_option maxHeartbeats 2000000 in
theorem tw_Cl_methodNameHolds {g : xe_G} {M : mi_H} {Y : yT} {a c b p vd ac da n : Nat} {pp : List Nat} {x1 : Int32}  (hW : WF g Y M) (hY0 : Y.1 a = some (2, [c, b, p, vd, ac])) (hY1 : Y.1 c = some (3, [b, da, n])) (hY2 : Y.1 b = some (1, [da, n])) (hY3 : Y.1 p = some (7, pp)) (hY4 : Y.1 vd = some (10, [])) (hY5 : Y.1 ac = some (0, [c, b, p, vd])) {d : Nat} (hd : 4 ≤ d) : mt (mT g) d 66 [.ref a, .int x1] M (pZ M) := by
  obtain ⟨d, rfl⟩ : ∃ e, d = e + 1 := ⟨d - 1, by omega⟩
  have hS : st g Y M M := st.rf hW
  refine mt_in (b := mb_66 g) rfl rfl ?_
  show ml (mT g) d (mb_66 g).2 (0, [(0, .ref a), (1, .int x1)], [], M) _
  refine ml_st (S' := (1, [(0, .ref a), (1, .int x1)], [.ref a], M)) rfl rfl rfl ?_
  refine tg_ref (S' := (4, [(0, .ref a), (1, .int x1)], [.ref p], M)) rfl hS.1 hY0 (by decide) rfl rfl ?_
  refine ml_blk 2 (S' := (7, [(0, .ref a), (1, .int x1)], [.ref (g.2.1 12), .int x1, .ref p], M)) rfl ?_
  refine ml_call (a := [.ref p, .int x1, .ref (g.2.1 12)]) (rest := []) rfl (okc_t rfl rfl rfl hS.1 hY3 (by decide)) rfl rfl (tq_textIs (lk := 12) hS.1 hY3 (by decide) (by omega)) (fun v1 M2 h3 => ?_)
  obtain ⟨⟨x4, rfl, z5⟩, h3⟩ := h3
  rw [h3]
  show ml _ _ _ (10, [(0, .ref a), (1, .int x1)], [.int x4], M) _
  refine ml_if (S1 := (32, [(0, .ref a), (1, .int x1)], [], M)) (S2 := (13, [(0, .ref a), (1, .int x1)], [], M)) rfl rfl rfl (fun c_10 => ?_) (fun c_10 => ?_)
  · have c_10 : x4 = 0 := of_decide_eq_true c_10
    refine ml_st (S' := (33, [(0, .ref a), (1, .int x1)], [.ref a], M)) rfl rfl rfl ?_
    refine tg_ref (S' := (36, [(0, .ref a), (1, .int x1)], [.ref p], M)) rfl hS.1 hY0 (by decide) rfl rfl ?_
    refine ml_blk 2 (S' := (39, [(0, .ref a), (1, .int x1)], [.ref (g.2.1 13), .int x1, .ref p], M)) rfl ?_
    refine ml_call (a := [.ref p, .int x1, .ref (g.2.1 13)]) (rest := []) rfl (okc_t rfl rfl rfl hS.1 hY3 (by decide)) rfl rfl (tq_textIs (lk := 13) hS.1 hY3 (by decide) (by omega)) (fun v6 M7 h8 => ?_)
    obtain ⟨⟨x9, rfl, z10⟩, h8⟩ := h8
    rw [h8]
    show ml _ _ _ (42, [(0, .ref a), (1, .int x1)], [.int x9], M) _
    refine ml_if (S1 := (67, [], [], M)) (S2 := (45, [(0, .ref a), (1, .int x1)], [], M)) rfl rfl rfl (fun c_42 => ?_) (fun c_42 => ?_)
    · have c_42 : ¬ x9 = 0 := of_decide_eq_true c_42
      refine ml_st (S' := (68, [], [.int 1], M)) rfl rfl rfl ?_
      refine ml_st (S' := (72, [], [.int 1], M)) rfl rfl rfl ?_
      exact ml_ret rfl (r_z (Or.inr rfl)) (⟨⟨_, rfl, Or.inr rfl⟩, rfl⟩)
    · have c_42 : ¬ (¬ x9 = 0) := of_decide_eq_false c_42
      refine ml_st (S' := (46, [(0, .ref a), (1, .int x1)], [.ref a], M)) rfl rfl rfl ?_
      refine tg_ref (S' := (49, [(0, .ref a), (1, .int x1)], [.ref p], M)) rfl hS.1 hY0 (by decide) rfl rfl ?_
      refine ml_st (S' := (50, [(0, .ref a), (1, .int x1)], [.int x1, .ref p], M)) rfl rfl rfl ?_
      refine ml_call (a := [.ref p, .int x1]) (rest := []) rfl (okc_t rfl rfl rfl hS.1 hY3 (by decide)) rfl rfl (tq_isUnqualifiedName hS.1 hY3 (by omega)) (fun v11 M12 h13 => ?_)
      obtain ⟨⟨u14, rfl, z15⟩, h13⟩ := h13
      rw [h13]
      show ml _ _ _ (53, [(0, .ref a), (1, .int x1)], [.int u14], M) _
      refine ml_if (S1 := (71, [], [], M)) (S2 := (56, [(0, .ref a), (1, .int x1)], [], M)) rfl rfl rfl (fun c_53 => ?_) (fun c_53 => ?_)
      · have c_53 : u14 = 0 := of_decide_eq_true c_53
        refine ml_st (S' := (72, [], [.int 0], M)) rfl rfl rfl ?_
        exact ml_ret rfl (r_z (Or.inl rfl)) (⟨⟨_, rfl, Or.inl rfl⟩, rfl⟩)
      · have c_53 : ¬ (u14 = 0) := of_decide_eq_false c_53
        refine ml_st (S' := (57, [(0, .ref a), (1, .int x1)], [.ref a], M)) rfl rfl rfl ?_
        refine tg_ref (S' := (60, [(0, .ref a), (1, .int x1)], [.ref p], M)) rfl hS.1 hY0 (by decide) rfl rfl ?_
        refine ml_st (S' := (61, [(0, .ref a), (1, .int x1)], [.int x1, .ref p], M)) rfl rfl rfl ?_
        refine ml_call (a := [.ref p, .int x1]) (rest := []) rfl (okc_t rfl rfl rfl hS.1 hY3 (by decide)) rfl rfl (tq_hasAngle hS.1 hY3 (by omega)) (fun v16 M17 h18 => ?_)
        obtain ⟨⟨u19, rfl, z20⟩, h18⟩ := h18
        rw [h18]
        show ml _ _ _ (64, [(0, .ref a), (1, .int x1)], [.int u19], M) _
        refine ml_if (S1 := (71, [], [], M)) (S2 := (67, [], [], M)) rfl rfl rfl (fun c_64 => ?_) (fun c_64 => ?_)
        · have c_64 : ¬ u19 = 0 := of_decide_eq_true c_64
          refine ml_st (S' := (72, [], [.int 0], M)) rfl rfl rfl ?_
          exact ml_ret rfl (r_z (Or.inl rfl)) (⟨⟨_, rfl, Or.inl rfl⟩, rfl⟩)
        · have c_64 : ¬ (¬ u19 = 0) := of_decide_eq_false c_64
          refine ml_st (S' := (68, [], [.int 1], M)) rfl rfl rfl ?_
          refine ml_st (S' := (72, [], [.int 1], M)) rfl rfl rfl ?_
          exact ml_ret rfl (r_z (Or.inr rfl)) (⟨⟨_, rfl, Or.inr rfl⟩, rfl⟩)
  · have c_10 : ¬ (x4 = 0) := of_decide_eq_false c_10
    refine ml_st (S' := (14, [(0, .ref a), (1, .int x1)], [.ref a], M)) rfl rfl rfl ?_
    refine tg_ref (S' := (17, [(0, .ref a), (1, .int x1)], [.ref c], M)) rfl hS.1 hY0 (by decide) rfl rfl ?_
    refine ml_st (S' := (20, [(0, .ref a), (1, .int x1)], [.int 512, .ref c], M)) rfl rfl rfl ?_
    refine ml_call (a := [.ref c, .int 512]) (rest := []) rfl (okc_t rfl rfl rfl hS.1 hY1 (by decide)) rfl rfl (tw_Cl_has hS.1 hY1 hY2 (by omega)) (fun v21 M22 h23 => ?_)
    obtain ⟨⟨u24, rfl, z25⟩, h23⟩ := h23
    rw [h23]
    show ml _ _ _ (23, [(0, .ref a), (1, .int x1)], [.int u24], M) _
    refine ml_if (S1 := (30, [(0, .ref a), (1, .int x1)], [], M)) (S2 := (26, [(0, .ref a), (1, .int x1)], [], M)) rfl rfl rfl (fun c_23 => ?_) (fun c_23 => ?_)
    · have c_23 : ¬ u24 = 0 := of_decide_eq_true c_23
      refine ml_st (S' := (31, [], [.int 0], M)) rfl rfl rfl ?_
      exact ml_ret rfl (r_z (Or.inl rfl)) (⟨⟨_, rfl, Or.inl rfl⟩, rfl⟩)
    · have c_23 : ¬ (¬ u24 = 0) := of_decide_eq_false c_23
      refine ml_st (S' := (27, [(0, .ref a), (1, .int x1)], [.int 1], M)) rfl rfl rfl ?_
      refine ml_st (S' := (31, [], [.int 1], M)) rfl rfl rfl ?_
      exact ml_ret rfl (r_z (Or.inr rfl)) (⟨⟨_, rfl, Or.inr rfl⟩, rfl⟩)
set_option maxHeartbeats 2000000 in
theorem tw_Cl_methodFlagsHold {g : xe_G} {M : mi_H} {Y : yT} {a c b p vd ac da n me : Nat} {pp : List Nat}  (hW : WF g Y M) (hY0 : Y.1 a = some (2, [c, b, p, vd, ac])) (hY1 : Y.1 c = some (3, [b, da, n])) (hY2 : Y.1 b = some (1, [da, n])) (hY3 : Y.1 p = some (7, pp)) (hY4 : Y.1 vd = some (10, [])) (hY5 : Y.1 ac = some (0, [c, b, p, vd])) (hY6 : Y.1 me = some (6, [da, n])) {d : Nat} (hd : 3 ≤ d) : mt (mT g) d 64 [.ref a, .ref me] M (pZ M) := by
  obtain ⟨d, rfl⟩ : ∃ e, d = e + 1 := ⟨d - 1, by omega⟩
  have hS : st g Y M M := st.rf hW
  refine mt_in (b := mb_64 g) rfl rfl ?_
  show ml (mT g) d (mb_64 g).2 (0, [(0, .ref a), (1, .ref me)], [], M) _
  refine ml_st (S' := (1, [(0, .ref a), (1, .ref me)], [.ref a], M)) rfl rfl rfl ?_
  refine tg_ref (S' := (4, [(0, .ref a), (1, .ref me)], [.ref p], M)) rfl hS.1 hY0 (by decide) rfl rfl ?_
  refine ml_st (S' := (5, [(0, .ref a), (1, .ref me)], [.ref me, .ref p], M)) rfl rfl rfl ?_
  refine tg_int rfl hS.1 hY6 (by decide) rfl (fun u1 g2 => ?_)
  show ml _ _ _ (8, [(0, .ref a), (1, .ref me)], [.int u1, .ref p], M) _
  refine ml_st (S' := (10, [(0, .ref a), (1, .ref me)], [.ref (g.2.1 13), .int u1, .ref p], M)) rfl rfl rfl ?_
  refine ml_call (a := [.ref p, .int u1, .ref (g.2.1 13)]) (rest := []) rfl (okc_t rfl rfl rfl hS.1 hY3 (by decide)) rfl rfl (tq_textIs (lk := 13) hS.1 hY3 (by decide) (by omega)) (fun v3 M4 h5 => ?_)
  obtain ⟨⟨x6, rfl, z7⟩, h5⟩ := h5
  rw [h5]
  show ml _ _ _ (13, [(0, .ref a), (1, .ref me)], [.int x6], M) _
  refine ml_if (S1 := (18, [(0, .ref a), (1, .ref me)], [], M)) (S2 := (16, [(0, .ref a), (1, .ref me)], [], M)) rfl rfl rfl (fun c_13 => ?_) (fun c_13 => ?_)
  · have c_13 : x6 = 0 := of_decide_eq_true c_13
    refine ml_st (S' := (19, [(0, .ref a), (1, .ref me)], [.ref a], M)) rfl rfl rfl ?_
    refine tg_ref (S' := (22, [(0, .ref a), (1, .ref me)], [.ref p], M)) rfl hS.1 hY0 (by decide) rfl rfl ?_
    refine ml_st (S' := (23, [(0, .ref a), (1, .ref me)], [.ref me, .ref p], M)) rfl rfl rfl ?_
    refine ml_get (S' := (26, [(0, .ref a), (1, .ref me)], [.int u1, .ref p], M)) rfl g2 rfl ?_
    refine ml_st (S' := (28, [(0, .ref a), (1, .ref me)], [.ref (g.2.1 12), .int u1, .ref p], M)) rfl rfl rfl ?_
    refine ml_call (a := [.ref p, .int u1, .ref (g.2.1 12)]) (rest := []) rfl (okc_t rfl rfl rfl hS.1 hY3 (by decide)) rfl rfl (tq_textIs (lk := 12) hS.1 hY3 (by decide) (by omega)) (fun v8 M9 h10 => ?_)
    obtain ⟨⟨x11, rfl, z12⟩, h10⟩ := h10
    rw [h10]
    show ml _ _ _ (31, [(0, .ref a), (1, .ref me)], [.int x11], M) _
    refine ml_if (S1 := (62, [(0, .ref a), (1, .ref me)], [], M)) (S2 := (34, [(0, .ref a), (1, .ref me)], [], M)) rfl rfl rfl (fun c_31 => ?_) (fun c_31 => ?_)
    · have c_31 : x11 = 0 := of_decide_eq_true c_31
      refine ml_blk 2 (S' := (66, [(0, .ref a), (1, .ref me)], [.int 1024, .ref me], M)) rfl ?_
      refine ml_call (a := [.ref me, .int 1024]) (rest := []) rfl (okc_t rfl rfl rfl hS.1 hY6 (by decide)) rfl rfl (tw_Me_has hS.1 hY6 (by omega)) (fun v13 M14 h15 => ?_)
      obtain ⟨⟨u16, rfl, z17⟩, h15⟩ := h15
      rw [h15]
      show ml _ _ _ (69, [(0, .ref a), (1, .ref me)], [.int u16], M) _
      refine ml_if (S1 := (82, [(0, .ref a), (1, .ref me)], [], M)) (S2 := (72, [(0, .ref a), (1, .ref me)], [], M)) rfl rfl rfl (fun c_69 => ?_) (fun c_69 => ?_)
      · have c_69 : u16 = 0 := of_decide_eq_true c_69
        refine ml_st (S' := (83, [(0, .ref a), (1, .ref me)], [.ref a], M)) rfl rfl rfl ?_
        refine tg_ref (S' := (86, [(0, .ref a), (1, .ref me)], [.ref c], M)) rfl hS.1 hY0 (by decide) rfl rfl ?_
        refine ml_st (S' := (89, [(0, .ref a), (1, .ref me)], [.int 512, .ref c], M)) rfl rfl rfl ?_
        refine ml_call (a := [.ref c, .int 512]) (rest := []) rfl (okc_t rfl rfl rfl hS.1 hY1 (by decide)) rfl rfl (tw_Cl_has hS.1 hY1 hY2 (by omega)) (fun v18 M19 h20 => ?_)
        obtain ⟨⟨u21, rfl, z22⟩, h20⟩ := h20
        rw [h20]
        show ml _ _ _ (92, [(0, .ref a), (1, .ref me)], [.int u21], M) _
        refine ml_if (S1 := (103, [(0, .ref a), (1, .ref me)], [], M)) (S2 := (95, [(0, .ref a), (1, .ref me)], [], M)) rfl rfl rfl (fun c_92 => ?_) (fun c_92 => ?_)
        · have c_92 : u21 = 0 := of_decide_eq_true c_92
          refine ml_st (S' := (104, [(0, .ref a), (1, .ref me)], [.ref me], M)) rfl rfl rfl ?_
          refine tg_int rfl hS.1 hY6 (by decide) rfl (fun u23 g24 => ?_)
          show ml _ _ _ (107, [(0, .ref a), (1, .ref me)], [.int u23], M) _
          refine ml_call (a := [.int u23]) (rest := []) rfl (rfl) rfl rfl (tw_Cl_hasOneAccessAtMost hS.1  (by omega)) (fun v25 M26 h27 => ?_)
          obtain ⟨⟨u28, rfl, z29⟩, h27⟩ := h27
          rw [h27]
          show ml _ _ _ (110, [], [.int u28], M) _
          exact ml_ret rfl (r_z (z29)) (⟨⟨_, rfl, z29⟩, rfl⟩)
        · have c_92 : ¬ (u21 = 0) := of_decide_eq_false c_92
          refine ml_blk 2 (S' := (97, [(0, .ref a), (1, .ref me)], [.ref me, .ref a], M)) rfl ?_
          refine ml_call (a := [.ref a, .ref me]) (rest := []) rfl (okc_t rfl rfl rfl hS.1 hY0 (by decide)) rfl rfl (tw_Cl_interfaceMethodHolds hS.1 hY0 hY1 hY2 hY3 hY4 hY5 hY6 (by omega)) (fun v30 M31 h32 => ?_)
          obtain ⟨⟨u33, rfl, z34⟩, h32⟩ := h32
          rw [h32]
          show ml _ _ _ (100, [(0, .ref a), (1, .ref me)], [.int u33], M) _
          refine ml_st (S' := (110, [], [.int u33], M)) rfl rfl rfl ?_
          exact ml_ret rfl (r_z (z34)) (⟨⟨_, rfl, z34⟩, rfl⟩)
      · have c_69 : ¬ (u16 = 0) := of_decide_eq_false c_69
        refine ml_blk 2 (S' := (74, [(0, .ref a), (1, .ref me)], [.ref me, .ref a], M)) rfl ?_
        refine ml_call (a := [.ref a, .ref me]) (rest := []) rfl (okc_t rfl rfl rfl hS.1 hY0 (by decide)) rfl rfl (tw_Cl_abstractHolds hS.1 hY0 hY1 hY2 hY3 hY4 hY5 hY6 (by omega)) (fun v35 M36 h37 => ?_)
        obtain ⟨⟨u38, rfl, z39⟩, h37⟩ := h37
        rw [h37]
        show ml _ _ _ (77, [(0, .ref a), (1, .ref me)], [.int u38], M) _
        refine ml_if (S1 := (82, [(0, .ref a), (1, .ref me)], [], M)) (S2 := (80, [(0, .ref a), (1, .ref me)], [], M)) rfl rfl rfl (fun c_77 => ?_) (fun c_77 => ?_)
        · have c_77 : ¬ u38 = 0 := of_decide_eq_true c_77
          refine ml_st (S' := (83, [(0, .ref a), (1, .ref me)], [.ref a], M)) rfl rfl rfl ?_
          refine tg_ref (S' := (86, [(0, .ref a), (1, .ref me)], [.ref c], M)) rfl hS.1 hY0 (by decide) rfl rfl ?_
          refine ml_st (S' := (89, [(0, .ref a), (1, .ref me)], [.int 512, .ref c], M)) rfl rfl rfl ?_
          refine ml_call (a := [.ref c, .int 512]) (rest := []) rfl (okc_t rfl rfl rfl hS.1 hY1 (by decide)) rfl rfl (tw_Cl_has hS.1 hY1 hY2 (by omega)) (fun v40 M41 h42 => ?_)
          obtain ⟨⟨u43, rfl, z44⟩, h42⟩ := h42
          rw [h42]
          show ml _ _ _ (92, [(0, .ref a), (1, .ref me)], [.int u43], M) _
          refine ml_if (S1 := (103, [(0, .ref a), (1, .ref me)], [], M)) (S2 := (95, [(0, .ref a), (1, .ref me)], [], M)) rfl rfl rfl (fun c_92 => ?_) (fun c_92 => ?_)
          · have c_92 : u43 = 0 := of_decide_eq_true c_92
            refine ml_st (S' := (104, [(0, .ref a), (1, .ref me)], [.ref me], M)) rfl rfl rfl ?_
            refine tg_int rfl hS.1 hY6 (by decide) rfl (fun u45 g46 => ?_)
            show ml _ _ _ (107, [(0, .ref a), (1, .ref me)], [.int u45], M) _
            refine ml_call (a := [.int u45]) (rest := []) rfl (rfl) rfl rfl (tw_Cl_hasOneAccessAtMost hS.1  (by omega)) (fun v47 M48 h49 => ?_)
            obtain ⟨⟨u50, rfl, z51⟩, h49⟩ := h49
            rw [h49]
            show ml _ _ _ (110, [], [.int u50], M) _
            exact ml_ret rfl (r_z (z51)) (⟨⟨_, rfl, z51⟩, rfl⟩)
          · have c_92 : ¬ (u43 = 0) := of_decide_eq_false c_92
            refine ml_blk 2 (S' := (97, [(0, .ref a), (1, .ref me)], [.ref me, .ref a], M)) rfl ?_
            refine ml_call (a := [.ref a, .ref me]) (rest := []) rfl (okc_t rfl rfl rfl hS.1 hY0 (by decide)) rfl rfl (tw_Cl_interfaceMethodHolds hS.1 hY0 hY1 hY2 hY3 hY4 hY5 hY6 (by omega)) (fun v52 M53 h54 => ?_)
            obtain ⟨⟨u55, rfl, z56⟩, h54⟩ := h54
            rw [h54]
            show ml _ _ _ (100, [(0, .ref a), (1, .ref me)], [.int u55], M) _
            refine ml_st (S' := (110, [], [.int u55], M)) rfl rfl rfl ?_
            exact ml_ret rfl (r_z (z56)) (⟨⟨_, rfl, z56⟩, rfl⟩)
        · have c_77 : ¬ (¬ u38 = 0) := of_decide_eq_false c_77
          refine ml_st (S' := (81, [(0, .ref a), (1, .ref me)], [.int 0], M)) rfl rfl rfl ?_
          exact ml_ret rfl (r_z (Or.inl rfl)) (⟨⟨_, rfl, Or.inl rfl⟩, rfl⟩)
    · have c_31 : ¬ (x11 = 0) := of_decide_eq_false c_31
      refine ml_st (S' := (37, [(0, .ref a), (1, .ref me)], [.int 1400], M)) rfl rfl rfl ?_
      refine ml_st (S' := (38, [(2, .int 1400), (0, .ref a), (1, .ref me)], [], M)) rfl rfl rfl ?_
      refine ml_st (S' := (39, [(2, .int 1400), (0, .ref a), (1, .ref me)], [.ref me], M)) rfl rfl rfl ?_
      refine tg_int rfl hS.1 hY6 (by decide) rfl (fun u57 g58 => ?_)
      show ml _ _ _ (42, [(2, .int 1400), (0, .ref a), (1, .ref me)], [.int u57], M) _
      refine ml_call (a := [.int u57]) (rest := []) rfl (rfl) rfl rfl (tw_Cl_hasOneAccessAtMost hS.1  (by omega)) (fun v59 M60 h61 => ?_)
      obtain ⟨⟨u62, rfl, z63⟩, h61⟩ := h61
      rw [h61]
      show ml _ _ _ (45, [(2, .int 1400), (0, .ref a), (1, .ref me)], [.int u62], M) _
      refine ml_if (S1 := (60, [], [], M)) (S2 := (48, [(2, .int 1400), (0, .ref a), (1, .ref me)], [], M)) rfl rfl rfl (fun c_45 => ?_) (fun c_45 => ?_)
      · have c_45 : u62 = 0 := of_decide_eq_true c_45
        refine ml_st (S' := (61, [], [.int 0], M)) rfl rfl rfl ?_
        exact ml_ret rfl (r_z (Or.inl rfl)) (⟨⟨_, rfl, Or.inl rfl⟩, rfl⟩)
      · have c_45 : ¬ (u62 = 0) := of_decide_eq_false c_45
        refine ml_blk 2 (S' := (50, [(2, .int 1400), (0, .ref a), (1, .ref me)], [.int 1400, .ref me], M)) rfl ?_
        refine ml_call (a := [.ref me, .int 1400]) (rest := []) rfl (okc_t rfl rfl rfl hS.1 hY6 (by decide)) rfl rfl (tw_Me_has hS.1 hY6 (by omega)) (fun v64 M65 h66 => ?_)
        obtain ⟨⟨u67, rfl, z68⟩, h66⟩ := h66
        rw [h66]
        show ml _ _ _ (53, [(2, .int 1400), (0, .ref a), (1, .ref me)], [.int u67], M) _
        refine ml_if (S1 := (60, [], [], M)) (S2 := (56, [(2, .int 1400), (0, .ref a), (1, .ref me)], [], M)) rfl rfl rfl (fun c_53 => ?_) (fun c_53 => ?_)
        · have c_53 : ¬ u67 = 0 := of_decide_eq_true c_53
          refine ml_st (S' := (61, [], [.int 0], M)) rfl rfl rfl ?_
          exact ml_ret rfl (r_z (Or.inl rfl)) (⟨⟨_, rfl, Or.inl rfl⟩, rfl⟩)
        · have c_53 : ¬ (¬ u67 = 0) := of_decide_eq_false c_53
          refine ml_st (S' := (57, [(2, .int 1400), (0, .ref a), (1, .ref me)], [.int 1], M)) rfl rfl rfl ?_
          refine ml_st (S' := (61, [], [.int 1], M)) rfl rfl rfl ?_
          exact ml_ret rfl (r_z (Or.inr rfl)) (⟨⟨_, rfl, Or.inr rfl⟩, rfl⟩)
  · have c_13 : ¬ (x6 = 0) := of_decide_eq_false c_13
    refine ml_st (S' := (17, [(0, .ref a), (1, .ref me)], [.int 1], M)) rfl rfl rfl ?_
    exact ml_ret rfl (r_z (Or.inr rfl)) (⟨⟨_, rfl, Or.inr rfl⟩, rfl⟩)
