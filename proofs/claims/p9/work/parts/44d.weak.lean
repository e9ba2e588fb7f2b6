set_option maxHeartbeats 2000000 in
theorem tw_Cl_fieldFlagsHold {g : xe_G} {M : mi_H} {Y : yT} {a c b p vd ac da n : Nat} {pp : List Nat} {x1 : Int32}  (hW : WF g Y M) (hY0 : Y.1 a = some (2, [c, b, p, vd, ac])) (hY1 : Y.1 c = some (3, [b, da, n])) (hY2 : Y.1 b = some (1, [da, n])) (hY3 : Y.1 p = some (7, pp)) (hY4 : Y.1 vd = some (10, [])) (hY5 : Y.1 ac = some (0, [c, b, p, vd])) {d : Nat} (hd : 3 ≤ d) : mt (mT g) d 55 [.ref a, .int x1] M (pZ M) := by
  obtain ⟨d, rfl⟩ : ∃ e, d = e + 1 := ⟨d - 1, by omega⟩
  have hS : st g Y M M := st.rf hW
  refine mt_in (b := mb_55 g) rfl rfl ?_
  show ml (mT g) d (mb_55 g).2 (0, [(0, .ref a), (1, .int x1)], [], M) _
  refine ml_st (S' := (1, [(0, .ref a), (1, .int x1)], [.ref a], M)) rfl rfl rfl ?_
  refine tg_ref (S' := (4, [(0, .ref a), (1, .int x1)], [.ref c], M)) rfl hS.1 hY0 (by decide) rfl rfl ?_
  refine ml_st (S' := (7, [(0, .ref a), (1, .int x1)], [.int 512, .ref c], M)) rfl rfl rfl ?_
  refine ml_call (a := [.ref c, .int 512]) (rest := []) rfl (okc_t rfl rfl rfl hS.1 hY1 (by decide)) rfl rfl (tw_Cl_has hS.1 hY1 hY2 (by omega)) (fun v1 M2 h3 => ?_)
  obtain ⟨⟨u4, rfl, z5⟩, h3⟩ := h3
  rw [h3]
  show ml _ _ _ (10, [(0, .ref a), (1, .int x1)], [.int u4], M) _
  refine ml_if (S1 := (31, [(0, .ref a), (1, .int x1)], [], M)) (S2 := (13, [(0, .ref a), (1, .int x1)], [], M)) rfl rfl rfl (fun c_10 => ?_) (fun c_10 => ?_)
  · have c_10 : u4 = 0 := of_decide_eq_true c_10
    refine ml_st (S' := (32, [(0, .ref a), (1, .int x1)], [.int x1], M)) rfl rfl rfl ?_
    refine ml_call (a := [.int x1]) (rest := []) rfl (rfl) rfl rfl (tw_Cl_hasOneAccessAtMost hS.1  (by omega)) (fun v6 M7 h8 => ?_)
    obtain ⟨⟨u9, rfl, z10⟩, h8⟩ := h8
    rw [h8]
    show ml _ _ _ (35, [(0, .ref a), (1, .int x1)], [.int u9], M) _
    refine ml_if (S1 := (51, [], [], M)) (S2 := (38, [(0, .ref a), (1, .int x1)], [], M)) rfl rfl rfl (fun c_35 => ?_) (fun c_35 => ?_)
    · have c_35 : u9 = 0 := of_decide_eq_true c_35
      refine ml_st (S' := (52, [], [.int 0], M)) rfl rfl rfl ?_
      exact ml_ret rfl (r_z (Or.inl rfl)) (⟨⟨_, rfl, Or.inl rfl⟩, rfl⟩)
    · have c_35 : ¬ (u9 = 0) := of_decide_eq_false c_35
      refine ml_blk 2 (S' := (41, [(0, .ref a), (1, .int x1)], [.int 80, .int x1], M)) rfl ?_
      refine ml_call (a := [.int x1, .int 80]) (rest := []) rfl (rfl) rfl rfl (tw_Cl_hasAll hS.1  (by omega)) (fun v11 M12 h13 => ?_)
      obtain ⟨⟨u14, rfl, z15⟩, h13⟩ := h13
      rw [h13]
      show ml _ _ _ (44, [(0, .ref a), (1, .int x1)], [.int u14], M) _
      refine ml_if (S1 := (51, [], [], M)) (S2 := (47, [(0, .ref a), (1, .int x1)], [], M)) rfl rfl rfl (fun c_44 => ?_) (fun c_44 => ?_)
      · have c_44 : ¬ u14 = 0 := of_decide_eq_true c_44
        refine ml_st (S' := (52, [], [.int 0], M)) rfl rfl rfl ?_
        exact ml_ret rfl (r_z (Or.inl rfl)) (⟨⟨_, rfl, Or.inl rfl⟩, rfl⟩)
      · have c_44 : ¬ (¬ u14 = 0) := of_decide_eq_false c_44
        refine ml_st (S' := (48, [(0, .ref a), (1, .int x1)], [.int 1], M)) rfl rfl rfl ?_
        refine ml_st (S' := (52, [], [.int 1], M)) rfl rfl rfl ?_
        exact ml_ret rfl (r_z (Or.inr rfl)) (⟨⟨_, rfl, Or.inr rfl⟩, rfl⟩)
  · have c_10 : ¬ (u4 = 0) := of_decide_eq_false c_10
    refine ml_st (S' := (16, [(0, .ref a), (1, .int x1)], [.int 16607], M)) rfl rfl rfl ?_
    refine ml_st (S' := (17, [(2, .int 16607), (0, .ref a), (1, .int x1)], [], M)) rfl rfl rfl ?_
    refine ml_blk 3 (S' := (20, [(2, .int 16607), (0, .ref a), (1, .int x1)], [.int (x1 &&& 16607)], M)) rfl ?_
    refine ml_st (S' := (22, [(2, .int 16607), (0, .ref a), (1, .int x1)], [.int 25, .int (x1 &&& 16607)], M)) rfl rfl rfl ?_
    refine ml_if2 (S1 := (29, [(2, .int 16607), (0, .ref a), (1, .int x1)], [], M)) (S2 := (25, [(2, .int 16607), (0, .ref a), (1, .int x1)], [], M)) rfl rfl rfl (fun c_22 => ?_) (fun c_22 => ?_)
    · have c_22 : ¬ (x1 &&& 16607) = 25 := of_decide_eq_true c_22
      refine ml_st (S' := (30, [], [.int 0], M)) rfl rfl rfl ?_
      exact ml_ret rfl (r_z (Or.inl rfl)) (⟨⟨_, rfl, Or.inl rfl⟩, rfl⟩)
    · have c_22 : ¬ (¬ (x1 &&& 16607) = 25) := of_decide_eq_false c_22
      refine ml_st (S' := (26, [(2, .int 16607), (0, .ref a), (1, .int x1)], [.int 1], M)) rfl rfl rfl ?_
      refine ml_st (S' := (30, [], [.int 1], M)) rfl rfl rfl ?_
      exact ml_ret rfl (r_z (Or.inr rfl)) (⟨⟨_, rfl, Or.inr rfl⟩, rfl⟩)
set_option maxHeartbeats 2000000 in
theorem tw_Cl_abstractHolds {g : xe_G} {M : mi_H} {Y : yT} {a c b p vd ac da n me : Nat} {pp : List Nat}  (hW : WF g Y M) (hY0 : Y.1 a = some (2, [c, b, p, vd, ac])) (hY1 : Y.1 c = some (3, [b, da, n])) (hY2 : Y.1 b = some (1, [da, n])) (hY3 : Y.1 p = some (7, pp)) (hY4 : Y.1 vd = some (10, [])) (hY5 : Y.1 ac = some (0, [c, b, p, vd])) (hY6 : Y.1 me = some (6, [da, n])) {d : Nat} (hd : 2 ≤ d) : mt (mT g) d 52 [.ref a, .ref me] M (pZ M) := by
  obtain ⟨d, rfl⟩ : ∃ e, d = e + 1 := ⟨d - 1, by omega⟩
  have hS : st g Y M M := st.rf hW
  refine mt_in (b := mb_52 g) rfl rfl ?_
  show ml (mT g) d (mb_52 g).2 (0, [(0, .ref a), (1, .ref me)], [], M) _
  refine ml_blk 2 (S' := (4, [(0, .ref a), (1, .ref me)], [.int 314, .ref me], M)) rfl ?_
  refine ml_call (a := [.ref me, .int 314]) (rest := []) rfl (okc_t rfl rfl rfl hS.1 hY6 (by decide)) rfl rfl (tw_Me_has hS.1 hY6 (by omega)) (fun v1 M2 h3 => ?_)
  obtain ⟨⟨u4, rfl, z5⟩, h3⟩ := h3
  rw [h3]
  show ml _ _ _ (7, [(0, .ref a), (1, .ref me)], [.int u4], M) _
  refine ml_if (S1 := (12, [(0, .ref a), (1, .ref me)], [], M)) (S2 := (10, [(0, .ref a), (1, .ref me)], [], M)) rfl rfl rfl (fun c_7 => ?_) (fun c_7 => ?_)
  · have c_7 : u4 = 0 := of_decide_eq_true c_7
    refine ml_st (S' := (13, [(0, .ref a), (1, .ref me)], [.ref a], M)) rfl rfl rfl ?_
    refine tg_ref (S' := (16, [(0, .ref a), (1, .ref me)], [.ref c], M)) rfl hS.1 hY0 (by decide) rfl rfl ?_
    refine tg_int rfl hS.1 hY1 (by decide) rfl (fun u6 g7 => ?_)
    show ml _ _ _ (19, [(0, .ref a), (1, .ref me)], [.int u6], M) _
    refine ml_st (S' := (21, [(0, .ref a), (1, .ref me)], [.int 46, .int u6], M)) rfl rfl rfl ?_
    refine ml_if2 (S1 := (46, [], [], M)) (S2 := (24, [(0, .ref a), (1, .ref me)], [], M)) rfl rfl rfl (fun c_21 => ?_) (fun c_21 => ?_)
    · have c_21 : u6 < 46 := of_decide_eq_true c_21
      refine ml_st (S' := (47, [], [.int 1], M)) rfl rfl rfl ?_
      refine ml_st (S' := (51, [], [.int 1], M)) rfl rfl rfl ?_
      exact ml_ret rfl (r_z (Or.inr rfl)) (⟨⟨_, rfl, Or.inr rfl⟩, rfl⟩)
    · have c_21 : ¬ (u6 < 46) := of_decide_eq_false c_21
      refine ml_st (S' := (25, [(0, .ref a), (1, .ref me)], [.ref a], M)) rfl rfl rfl ?_
      refine tg_ref (S' := (28, [(0, .ref a), (1, .ref me)], [.ref c], M)) rfl hS.1 hY0 (by decide) rfl rfl ?_
      refine ml_get (S' := (31, [(0, .ref a), (1, .ref me)], [.int u6], M)) rfl g7 rfl ?_
      refine ml_st (S' := (33, [(0, .ref a), (1, .ref me)], [.int 60, .int u6], M)) rfl rfl rfl ?_
      refine ml_if2 (S1 := (46, [], [], M)) (S2 := (36, [(0, .ref a), (1, .ref me)], [], M)) rfl rfl rfl (fun c_33 => ?_) (fun c_33 => ?_)
      · have c_33 : 60 < u6 := of_decide_eq_true c_33
        refine ml_st (S' := (47, [], [.int 1], M)) rfl rfl rfl ?_
        refine ml_st (S' := (51, [], [.int 1], M)) rfl rfl rfl ?_
        exact ml_ret rfl (r_z (Or.inr rfl)) (⟨⟨_, rfl, Or.inr rfl⟩, rfl⟩)
      · have c_33 : ¬ (60 < u6) := of_decide_eq_false c_33
        refine ml_blk 2 (S' := (40, [(0, .ref a), (1, .ref me)], [.int 2048, .ref me], M)) rfl ?_
        refine ml_call (a := [.ref me, .int 2048]) (rest := []) rfl (okc_t rfl rfl rfl hS.1 hY6 (by decide)) rfl rfl (tw_Me_has hS.1 hY6 (by omega)) (fun v8 M9 h10 => ?_)
        obtain ⟨⟨u11, rfl, z12⟩, h10⟩ := h10
        rw [h10]
        show ml _ _ _ (43, [(0, .ref a), (1, .ref me)], [.int u11], M) _
        refine ml_if (S1 := (50, [(0, .ref a), (1, .ref me)], [], M)) (S2 := (46, [], [], M)) rfl rfl rfl (fun c_43 => ?_) (fun c_43 => ?_)
        · have c_43 : ¬ u11 = 0 := of_decide_eq_true c_43
          refine ml_st (S' := (51, [], [.int 0], M)) rfl rfl rfl ?_
          exact ml_ret rfl (r_z (Or.inl rfl)) (⟨⟨_, rfl, Or.inl rfl⟩, rfl⟩)
        · have c_43 : ¬ (¬ u11 = 0) := of_decide_eq_false c_43
          refine ml_st (S' := (47, [], [.int 1], M)) rfl rfl rfl ?_
          refine ml_st (S' := (51, [], [.int 1], M)) rfl rfl rfl ?_
          exact ml_ret rfl (r_z (Or.inr rfl)) (⟨⟨_, rfl, Or.inr rfl⟩, rfl⟩)
  · have c_7 : ¬ (u4 = 0) := of_decide_eq_false c_7
    refine ml_st (S' := (11, [(0, .ref a), (1, .ref me)], [.int 0], M)) rfl rfl rfl ?_
    exact ml_ret rfl (r_z (Or.inl rfl)) (⟨⟨_, rfl, Or.inl rfl⟩, rfl⟩)
set_option maxHeartbeats 2000000 in
theorem tw_Cl_interfaceMethodHolds {g : xe_G} {M : mi_H} {Y : yT} {a c b p vd ac da n me : Nat} {pp : List Nat}  (hW : WF g Y M) (hY0 : Y.1 a = some (2, [c, b, p, vd, ac])) (hY1 : Y.1 c = some (3, [b, da, n])) (hY2 : Y.1 b = some (1, [da, n])) (hY3 : Y.1 p = some (7, pp)) (hY4 : Y.1 vd = some (10, [])) (hY5 : Y.1 ac = some (0, [c, b, p, vd])) (hY6 : Y.1 me = some (6, [da, n])) {d : Nat} (hd : 2 ≤ d) : mt (mT g) d 61 [.ref a, .ref me] M (pZ M) := by
  obtain ⟨d, rfl⟩ : ∃ e, d = e + 1 := ⟨d - 1, by omega⟩
  have hS : st g Y M M := st.rf hW
  refine mt_in (b := mb_61 g) rfl rfl ?_
  show ml (mT g) d (mb_61 g).2 (0, [(0, .ref a), (1, .ref me)], [], M) _
  refine ml_blk 2 (S' := (4, [(0, .ref a), (1, .ref me)], [.int 308, .ref me], M)) rfl ?_
  refine ml_call (a := [.ref me, .int 308]) (rest := []) rfl (okc_t rfl rfl rfl hS.1 hY6 (by decide)) rfl rfl (tw_Me_has hS.1 hY6 (by omega)) (fun v1 M2 h3 => ?_)
  obtain ⟨⟨u4, rfl, z5⟩, h3⟩ := h3
  rw [h3]
  show ml _ _ _ (7, [(0, .ref a), (1, .ref me)], [.int u4], M) _
  refine ml_if (S1 := (12, [(0, .ref a), (1, .ref me)], [], M)) (S2 := (10, [(0, .ref a), (1, .ref me)], [], M)) rfl rfl rfl (fun c_7 => ?_) (fun c_7 => ?_)
  · have c_7 : u4 = 0 := of_decide_eq_true c_7
    refine ml_st (S' := (13, [(0, .ref a), (1, .ref me)], [.ref a], M)) rfl rfl rfl ?_
    refine tg_ref (S' := (16, [(0, .ref a), (1, .ref me)], [.ref c], M)) rfl hS.1 hY0 (by decide) rfl rfl ?_
    refine tg_int rfl hS.1 hY1 (by decide) rfl (fun u6 g7 => ?_)
    show ml _ _ _ (19, [(0, .ref a), (1, .ref me)], [.int u6], M) _
    refine ml_st (S' := (21, [(0, .ref a), (1, .ref me)], [.int 52, .int u6], M)) rfl rfl rfl ?_
    refine ml_if2 (S1 := (52, [(0, .ref a), (1, .ref me)], [], M)) (S2 := (24, [(0, .ref a), (1, .ref me)], [], M)) rfl rfl rfl (fun c_21 => ?_) (fun c_21 => ?_)
    · have c_21 : 52 ≤ u6 := of_decide_eq_true c_21
      refine ml_blk 2 (S' := (54, [(0, .ref a), (1, .ref me)], [.int 1, .ref me], M)) rfl ?_
      refine ml_call (a := [.ref me, .int 1]) (rest := []) rfl (okc_t rfl rfl rfl hS.1 hY6 (by decide)) rfl rfl (tw_Me_has hS.1 hY6 (by omega)) (fun v8 M9 h10 => ?_)
      obtain ⟨⟨u11, rfl, z12⟩, h10⟩ := h10
      rw [h10]
      show ml _ _ _ (57, [(0, .ref a), (1, .ref me)], [.int u11], M) _
      refine ml_blk 2 (S' := (59, [(0, .ref a), (1, .ref me)], [.int 2, .ref me, .int u11], M)) rfl ?_
      refine ml_call (a := [.ref me, .int 2]) (rest := [.int u11]) rfl (okc_t rfl rfl rfl hS.1 hY6 (by decide)) rfl rfl (tw_Me_has hS.1 hY6 (by omega)) (fun v13 M14 h15 => ?_)
      obtain ⟨⟨u16, rfl, z17⟩, h15⟩ := h15
      rw [h15]
      show ml _ _ _ (62, [(0, .ref a), (1, .ref me)], [.int u16, .int u11], M) _
      refine ml_if2 (S1 := (69, [(0, .ref a), (1, .ref me)], [], M)) (S2 := (65, [(0, .ref a), (1, .ref me)], [], M)) rfl rfl rfl (fun c_62 => ?_) (fun c_62 => ?_)
      · have c_62 : u11 = u16 := of_decide_eq_true c_62
        refine ml_st (S' := (70, [], [.int 0], M)) rfl rfl rfl ?_
        exact ml_ret rfl (r_z (Or.inl rfl)) (⟨⟨_, rfl, Or.inl rfl⟩, rfl⟩)
      · have c_62 : ¬ (u11 = u16) := of_decide_eq_false c_62
        refine ml_st (S' := (66, [(0, .ref a), (1, .ref me)], [.int 1], M)) rfl rfl rfl ?_
        refine ml_st (S' := (70, [], [.int 1], M)) rfl rfl rfl ?_
        exact ml_ret rfl (r_z (Or.inr rfl)) (⟨⟨_, rfl, Or.inr rfl⟩, rfl⟩)
    · have c_21 : ¬ (52 ≤ u6) := of_decide_eq_false c_21
      refine ml_st (S' := (25, [(0, .ref a), (1, .ref me)], [.ref me], M)) rfl rfl rfl ?_
      refine tg_int rfl hS.1 hY6 (by decide) rfl (fun u18 g19 => ?_)
      show ml _ _ _ (28, [(0, .ref a), (1, .ref me)], [.int u18], M) _
      refine ml_st (S' := (31, [(0, .ref a), (1, .ref me)], [.int 1025, .int u18], M)) rfl rfl rfl ?_
      refine ml_call (a := [.int u18, .int 1025]) (rest := []) rfl (rfl) rfl rfl (tw_Cl_hasAll hS.1  (by omega)) (fun v20 M21 h22 => ?_)
      obtain ⟨⟨u23, rfl, z24⟩, h22⟩ := h22
      rw [h22]
      show ml _ _ _ (34, [(0, .ref a), (1, .ref me)], [.int u23], M) _
      refine ml_if (S1 := (50, [], [], M)) (S2 := (37, [(0, .ref a), (1, .ref me)], [], M)) rfl rfl rfl (fun c_34 => ?_) (fun c_34 => ?_)
      · have c_34 : u23 = 0 := of_decide_eq_true c_34
        refine ml_st (S' := (51, [], [.int 0], M)) rfl rfl rfl ?_
        exact ml_ret rfl (r_z (Or.inl rfl)) (⟨⟨_, rfl, Or.inl rfl⟩, rfl⟩)
      · have c_34 : ¬ (u23 = 0) := of_decide_eq_false c_34
        refine ml_blk 2 (S' := (40, [(0, .ref a), (1, .ref me)], [.int 8, .ref me], M)) rfl ?_
        refine ml_call (a := [.ref me, .int 8]) (rest := []) rfl (okc_t rfl rfl rfl hS.1 hY6 (by decide)) rfl rfl (tw_Me_has hS.1 hY6 (by omega)) (fun v25 M26 h27 => ?_)
        obtain ⟨⟨u28, rfl, z29⟩, h27⟩ := h27
        rw [h27]
        show ml _ _ _ (43, [(0, .ref a), (1, .ref me)], [.int u28], M) _
        refine ml_if (S1 := (50, [], [], M)) (S2 := (46, [(0, .ref a), (1, .ref me)], [], M)) rfl rfl rfl (fun c_43 => ?_) (fun c_43 => ?_)
        · have c_43 : ¬ u28 = 0 := of_decide_eq_true c_43
          refine ml_st (S' := (51, [], [.int 0], M)) rfl rfl rfl ?_
          exact ml_ret rfl (r_z (Or.inl rfl)) (⟨⟨_, rfl, Or.inl rfl⟩, rfl⟩)
        · have c_43 : ¬ (¬ u28 = 0) := of_decide_eq_false c_43
          refine ml_st (S' := (47, [(0, .ref a), (1, .ref me)], [.int 1], M)) rfl rfl rfl ?_
          refine ml_st (S' := (51, [], [.int 1], M)) rfl rfl rfl ?_
          exact ml_ret rfl (r_z (Or.inr rfl)) (⟨⟨_, rfl, Or.inr rfl⟩, rfl⟩)
  · have c_7 : ¬ (u4 = 0) := of_decide_eq_false c_7
    refine ml_st (S' := (11, [(0, .ref a), (1, .ref me)], [.int 0], M)) rfl rfl rfl ?_
    exact ml_ret rfl (r_z (Or.inl rfl)) (⟨⟨_, rfl, Or.inl rfl⟩, rfl⟩)
set_option maxHeartbeats 2000000 in
theorem tw_Cl_methodDescriptorHolds {g : xe_G} {M : mi_H} {Y : yT} {a c b p vd ac da n me : Nat} {pp : List Nat}  (hW : WF g Y M) (hY0 : Y.1 a = some (2, [c, b, p, vd, ac])) (hY1 : Y.1 c = some (3, [b, da, n])) (hY2 : Y.1 b = some (1, [da, n])) (hY3 : Y.1 p = some (7, pp)) (hY4 : Y.1 vd = some (10, [])) (hY5 : Y.1 ac = some (0, [c, b, p, vd])) (hY6 : Y.1 me = some (6, [da, n])) {d : Nat} (hd : 4 ≤ d) : mt (mT g) d 63 [.ref a, .ref me] M (pZ M) := by
  obtain ⟨d, rfl⟩ : ∃ e, d = e + 1 := ⟨d - 1, by omega⟩
  have hS : st g Y M M := st.rf hW
  refine mt_in (b := mb_63 g) rfl rfl ?_
  show ml (mT g) d (mb_63 g).2 (0, [(0, .ref a), (1, .ref me)], [], M) _
  refine ml_st (S' := (1, [(0, .ref a), (1, .ref me)], [.ref a], M)) rfl rfl rfl ?_
  refine tg_ref (S' := (4, [(0, .ref a), (1, .ref me)], [.ref p], M)) rfl hS.1 hY0 (by decide) rfl rfl ?_
  refine ml_st (S' := (5, [(0, .ref a), (1, .ref me)], [.ref me, .ref p], M)) rfl rfl rfl ?_
  refine tg_int rfl hS.1 hY6 (by decide) rfl (fun u1 g2 => ?_)
  show ml _ _ _ (8, [(0, .ref a), (1, .ref me)], [.int u1, .ref p], M) _
  refine ml_call (a := [.ref p, .int u1]) (rest := []) rfl (okc_t rfl rfl rfl hS.1 hY3 (by decide)) rfl rfl (tq_isMethodDescriptor hS.1 hY3 (by omega)) (fun v3 M4 h5 => ?_)
  obtain ⟨⟨u6, rfl, z7⟩, h5⟩ := h5
  rw [h5]
  show ml _ _ _ (11, [(0, .ref a), (1, .ref me)], [.int u6], M) _
  refine ml_if (S1 := (24, [], [], M)) (S2 := (14, [(0, .ref a), (1, .ref me)], [], M)) rfl rfl rfl (fun c_11 => ?_) (fun c_11 => ?_)
  · have c_11 : u6 = 0 := of_decide_eq_true c_11
    refine ml_st (S' := (25, [], [.int 0], M)) rfl rfl rfl ?_
    exact ml_ret rfl (r_z (Or.inl rfl)) (⟨⟨_, rfl, Or.inl rfl⟩, rfl⟩)
  · have c_11 : ¬ (u6 = 0) := of_decide_eq_false c_11
    refine ml_st (S' := (15, [(0, .ref a), (1, .ref me)], [.ref me], M)) rfl rfl rfl ?_
    refine tg_int rfl hS.1 hY6 (by decide) rfl (fun u8 g9 => ?_)
    show ml _ _ _ (18, [(0, .ref a), (1, .ref me)], [.int u8], M) _
    refine ml_st (S' := (21, [(0, .ref a), (1, .ref me)], [.int 255, .int u8], M)) rfl rfl rfl ?_
    refine ml_if2 (S1 := (26, [(0, .ref a), (1, .ref me)], [], M)) (S2 := (24, [], [], M)) rfl rfl rfl (fun c_21 => ?_) (fun c_21 => ?_)
    · have c_21 : u8 ≤ 255 := of_decide_eq_true c_21
      refine ml_st (S' := (27, [(0, .ref a), (1, .ref me)], [.ref a], M)) rfl rfl rfl ?_
      refine tg_ref (S' := (30, [(0, .ref a), (1, .ref me)], [.ref p], M)) rfl hS.1 hY0 (by decide) rfl rfl ?_
      refine ml_st (S' := (31, [(0, .ref a), (1, .ref me)], [.ref me, .ref p], M)) rfl rfl rfl ?_
      refine tg_int rfl hS.1 hY6 (by decide) rfl (fun u10 g11 => ?_)
      show ml _ _ _ (34, [(0, .ref a), (1, .ref me)], [.int u10, .ref p], M) _
      refine ml_st (S' := (36, [(0, .ref a), (1, .ref me)], [.ref (g.2.1 12), .int u10, .ref p], M)) rfl rfl rfl ?_
      refine ml_call (a := [.ref p, .int u10, .ref (g.2.1 12)]) (rest := []) rfl (okc_t rfl rfl rfl hS.1 hY3 (by decide)) rfl rfl (tq_textIs (lk := 12) hS.1 hY3 (by decide) (by omega)) (fun v12 M13 h14 => ?_)
      obtain ⟨⟨x15, rfl, z16⟩, h14⟩ := h14
      rw [h14]
      show ml _ _ _ (39, [(0, .ref a), (1, .ref me)], [.int x15], M) _
      refine ml_if (S1 := (56, [], [], M)) (S2 := (42, [(0, .ref a), (1, .ref me)], [], M)) rfl rfl rfl (fun c_39 => ?_) (fun c_39 => ?_)
      · have c_39 : x15 = 0 := of_decide_eq_true c_39
        refine ml_st (S' := (57, [], [.int 1], M)) rfl rfl rfl ?_
        refine ml_st (S' := (61, [], [.int 1], M)) rfl rfl rfl ?_
        exact ml_ret rfl (r_z (Or.inr rfl)) (⟨⟨_, rfl, Or.inr rfl⟩, rfl⟩)
      · have c_39 : ¬ (x15 = 0) := of_decide_eq_false c_39
        refine ml_st (S' := (43, [(0, .ref a), (1, .ref me)], [.ref a], M)) rfl rfl rfl ?_
        refine tg_ref (S' := (46, [(0, .ref a), (1, .ref me)], [.ref p], M)) rfl hS.1 hY0 (by decide) rfl rfl ?_
        refine ml_st (S' := (47, [(0, .ref a), (1, .ref me)], [.ref me, .ref p], M)) rfl rfl rfl ?_
        refine ml_get (S' := (50, [(0, .ref a), (1, .ref me)], [.int u1, .ref p], M)) rfl g2 rfl ?_
        refine ml_call (a := [.ref p, .int u1]) (rest := []) rfl (okc_t rfl rfl rfl hS.1 hY3 (by decide)) rfl rfl (tq_hasNoResult hS.1 hY3 (by omega)) (fun v17 M18 h19 => ?_)
        obtain ⟨⟨u20, rfl, z21⟩, h19⟩ := h19
        rw [h19]
        show ml _ _ _ (53, [(0, .ref a), (1, .ref me)], [.int u20], M) _
        refine ml_if (S1 := (60, [(0, .ref a), (1, .ref me)], [], M)) (S2 := (56, [], [], M)) rfl rfl rfl (fun c_53 => ?_) (fun c_53 => ?_)
        · have c_53 : u20 = 0 := of_decide_eq_true c_53
          refine ml_st (S' := (61, [], [.int 0], M)) rfl rfl rfl ?_
          exact ml_ret rfl (r_z (Or.inl rfl)) (⟨⟨_, rfl, Or.inl rfl⟩, rfl⟩)
        · have c_53 : ¬ (u20 = 0) := of_decide_eq_false c_53
          refine ml_st (S' := (57, [], [.int 1], M)) rfl rfl rfl ?_
          refine ml_st (S' := (61, [], [.int 1], M)) rfl rfl rfl ?_
          exact ml_ret rfl (r_z (Or.inr rfl)) (⟨⟨_, rfl, Or.inr rfl⟩, rfl⟩)
    · have c_21 : ¬ (u8 ≤ 255) := of_decide_eq_false c_21
      refine ml_st (S' := (25, [], [.int 0], M)) rfl rfl rfl ?_
      exact ml_ret rfl (r_z (Or.inl rfl)) (⟨⟨_, rfl, Or.inl rfl⟩, rfl⟩)
