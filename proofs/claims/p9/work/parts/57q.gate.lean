/-! the gate (laid by wip/p2/c57.py) -/
set_option maxHeartbeats 2000000 in
theorem tq_codeOf {g : xe_G} {M : mi_H} {Y : yT} {x cm fl B : Nat} {cc wp : Int32} {kv : Value} {x1 : Int32} (hW : WF g Y M) (hx : M.1 x = some (ob 11 [.ref cm, .int cc, .ref fl, kv, .int wp])) (hxn : Y.1 x = none) (hxl : x < M.2.1) (hkv : kvOk Y kv B) {d : Nat} (hd : 4 ≤ d) : mt (mT g) d 4 [.ref x, .int x1] M (pC Y B kv M) := by
  obtain ⟨d, rfl⟩ : ∃ e, d = e + 1 := ⟨d - 1, by omega⟩
  refine mt_in (b := mb_4 g) rfl rfl ?_
  rcases hkv with rfl | ⟨kc, kb, kd, kn, rfl, hyk, hkB⟩
  · show ml (mT g) d (mb_4 g).2 (0, [(0, .ref x), (1, .int x1)], [], M) _
    have hS : st g Y M M := st.rf hW
    refine ml_st (S' := (1, [(0, .ref x), (1, .int x1)], [.ref x], M)) rfl rfl rfl ?_
    refine mo_get (S' := (4, [(0, .ref x), (1, .int x1)], [.null], M)) rfl hx rfl rfl ?_
    refine ml_st (S' := (7, [(0, .ref x), (1, .int x1)], [], M)) rfl rfl rfl ?_
    refine ml_st (S' := (8, [(0, .ref x), (1, .int x1)], [.null], M)) rfl rfl rfl ?_
    refine ml_st (S' := (20, [], [.null], M)) rfl rfl rfl ?_
    refine ml_st (S' := (21, [(2, .null)], [], M)) rfl rfl rfl ?_
    refine ml_blk 2 (S' := (25, [(2, .null)], [], M)) rfl ?_
    refine ml_st (S' := (26, [(2, .null)], [.null], M)) rfl rfl rfl ?_
    refine ml_st (S' := (33, [], [.null], M)) rfl rfl rfl ?_
    exact ml_ret rfl (rfl) (⟨Or.inl rfl, rfl⟩)
  · show ml (mT g) d (mb_4 g).2 (0, [(0, .ref x), (1, .int x1)], [], M) _
    have hS : st g Y M M := st.rf hW
    have h1 := hS.1.lnk hyk (by decide)
    refine ml_st (S' := (1, [(0, .ref x), (1, .int x1)], [.ref x], M)) rfl rfl rfl ?_
    refine mo_get (S' := (4, [(0, .ref x), (1, .int x1)], [.ref kc], M)) rfl hx rfl rfl ?_
    refine ml_st (S' := (11, [(0, .ref x), (1, .int x1)], [], M)) rfl rfl rfl ?_
    refine ml_st (S' := (12, [(0, .ref x), (1, .int x1)], [.ref x], M)) rfl rfl rfl ?_
    refine mo_get (S' := (15, [(0, .ref x), (1, .int x1)], [.ref kc], M)) rfl hx rfl rfl ?_
    refine ml_blk 2 (S' := (17, [(0, .ref x), (1, .int x1)], [.int x1, .int 1, .ref kc], M)) rfl ?_
    refine ml_call (a := [.ref kc, .int 1, .int x1]) (rest := []) rfl (okc_t rfl rfl rfl hS.1 hyk (by decide)) rfl rfl (tw_Cl_memberAt hS.1 hyk h1 (by omega)) (fun v2 M3 h4 => ?_)
    obtain ⟨hv6, h4⟩ := h4
    rw [h4]
    rcases hv6 with rfl | ⟨b7, rfl, h8⟩
    · show ml _ _ _ (20, [], [.null], M) _
      refine ml_st (S' := (21, [(2, .null)], [], M)) rfl rfl rfl ?_
      refine ml_blk 2 (S' := (25, [(2, .null)], [], M)) rfl ?_
      refine ml_st (S' := (26, [(2, .null)], [.null], M)) rfl rfl rfl ?_
      refine ml_st (S' := (33, [], [.null], M)) rfl rfl rfl ?_
      exact ml_ret rfl (rfl) (⟨Or.inl rfl, rfl⟩)
    · show ml _ _ _ (20, [], [.ref b7], M) _
      refine ml_st (S' := (21, [(2, .ref b7)], [], M)) rfl rfl rfl ?_
      refine ml_blk 2 (S' := (29, [(2, .ref b7)], [], M)) rfl ?_
      refine ml_st (S' := (30, [(2, .ref b7)], [.ref b7], M)) rfl rfl rfl ?_
      refine tg_vn rfl hS.1 h8 (by decide) rfl (fun g11 => ?_) (fun b9 g11 h10 => ?_)
      · show ml _ _ _ (33, [], [.null], M) _
        exact ml_ret rfl (rfl) (⟨Or.inl rfl, rfl⟩)
      · skip
        obtain ⟨p12, o13, h10⟩ := h10
        obtain ⟨⟨pp14, h15⟩, b16, h17⟩ := hS.1.lnk h10 (by decide)
        obtain ⟨da18, n19, h20⟩ := hS.1.lnk h17 (by decide)
        show ml _ _ _ (33, [], [.ref b9], M) _
        exact ml_ret rfl (rfl) (⟨Or.inr ⟨(fun h => by cases h), _, _, _, _, rfl, h10, hkB⟩, rfl⟩)
set_option maxHeartbeats 2000000 in
theorem tq_place {g : xe_G} {M : mi_H} {Y : yT} {x cm fl B : Nat} {cc wp : Int32} {kv : Value} (hW : WF g Y M) (hx : M.1 x = some (ob 11 [.ref cm, .int cc, .ref fl, kv, .int wp])) (hxn : Y.1 x = none) (hxl : x < M.2.1) (hkv : kvOk Y kv B) {d : Nat} (hd : 9 ≤ d) : mt (mT g) d 16 [.ref x] M (pI M) := by
  obtain ⟨d, rfl⟩ : ∃ e, d = e + 1 := ⟨d - 1, by omega⟩
  refine mt_in (b := mb_16 g) rfl rfl ?_
  rcases hkv with rfl | ⟨kc, kb, kd, kn, rfl, hyk, hkB⟩
  · show ml (mT g) d (mb_16 g).2 (0, [(0, .ref x)], [], M) _
    have hS : st g Y M M := st.rf hW
    refine ml_st (S' := (1, [(0, .ref x)], [.ref x], M)) rfl rfl rfl ?_
    refine mo_get (S' := (4, [(0, .ref x)], [.int wp], M)) rfl hx rfl rfl ?_
    exact ml_ret rfl (rfl) (⟨⟨_, rfl⟩, rfl⟩)
  · show ml (mT g) d (mb_16 g).2 (0, [(0, .ref x)], [], M) _
    have hS : st g Y M M := st.rf hW
    have h1 := hS.1.lnk hyk (by decide)
    refine ml_st (S' := (1, [(0, .ref x)], [.ref x], M)) rfl rfl rfl ?_
    refine mo_get (S' := (4, [(0, .ref x)], [.int wp], M)) rfl hx rfl rfl ?_
    exact ml_ret rfl (rfl) (⟨⟨_, rfl⟩, rfl⟩)
set_option maxHeartbeats 2000000 in
theorem tq_count {g : xe_G} {M : mi_H} {Y : yT} {x cm fl B : Nat} {cc wp : Int32} {kv : Value} {x1 : Int32} (hW : WF g Y M) (hx : M.1 x = some (ob 11 [.ref cm, .int cc, .ref fl, kv, .int wp])) (hxn : Y.1 x = none) (hxl : x < M.2.1) (hkv : kvOk Y kv B) (hq0 : ¬ x1 < 0) (hq1 : x1 ≤ 15) {d : Nat} (hd : 9 ≤ d) : mt (mT g) d 5 [.ref x, .int x1] M (pI M) := by
  obtain ⟨d, rfl⟩ : ∃ e, d = e + 1 := ⟨d - 1, by omega⟩
  refine mt_in (b := mb_5 g) rfl rfl ?_
  rcases hkv with rfl | ⟨kc, kb, kd, kn, rfl, hyk, hkB⟩
  · show ml (mT g) d (mb_5 g).2 (0, [(0, .ref x), (1, .int x1)], [], M) _
    have hS : st g Y M M := st.rf hW
    refine ml_st (S' := (1, [(0, .ref x), (1, .int x1)], [.int x1], M)) rfl rfl rfl ?_
    refine ml_if (S1 := (10, [(0, .ref x), (1, .int x1)], [], M)) (S2 := (4, [(0, .ref x), (1, .int x1)], [], M)) rfl rfl rfl (fun c_1 => ?_) (fun c_1 => ?_)
    · exact absurd (of_decide_eq_true c_1) (hq0)
    refine ml_blk 2 (S' := (7, [(0, .ref x), (1, .int x1)], [.int 15, .int x1], M)) rfl ?_
    refine ml_if2 (S1 := (20, [(0, .ref x), (1, .int x1)], [], M)) (S2 := (10, [(0, .ref x), (1, .int x1)], [], M)) rfl rfl rfl (fun c_7 => ?_) (fun c_7 => ?_)
    rotate_left
    · exact absurd (hq1) (of_decide_eq_false c_7)
    refine ml_st (S' := (21, [(0, .ref x), (1, .int x1)], [.ref x], M)) rfl rfl rfl ?_
    refine mo_get (S' := (24, [(0, .ref x), (1, .int x1)], [.null], M)) rfl hx rfl rfl ?_
    refine ml_st (S' := (27, [(0, .ref x), (1, .int x1)], [], M)) rfl rfl rfl ?_
    refine ml_st (S' := (28, [(0, .ref x), (1, .int x1)], [.int (-1)], M)) rfl rfl rfl ?_
    refine ml_st (S' := (39, [], [.int (-1)], M)) rfl rfl rfl ?_
    exact ml_ret rfl (rfl) (⟨⟨_, rfl⟩, rfl⟩)
  · show ml (mT g) d (mb_5 g).2 (0, [(0, .ref x), (1, .int x1)], [], M) _
    have hS : st g Y M M := st.rf hW
    have h1 := hS.1.lnk hyk (by decide)
    refine ml_st (S' := (1, [(0, .ref x), (1, .int x1)], [.int x1], M)) rfl rfl rfl ?_
    refine ml_if (S1 := (10, [(0, .ref x), (1, .int x1)], [], M)) (S2 := (4, [(0, .ref x), (1, .int x1)], [], M)) rfl rfl rfl (fun c_1 => ?_) (fun c_1 => ?_)
    · exact absurd (of_decide_eq_true c_1) (hq0)
    refine ml_blk 2 (S' := (7, [(0, .ref x), (1, .int x1)], [.int 15, .int x1], M)) rfl ?_
    refine ml_if2 (S1 := (20, [(0, .ref x), (1, .int x1)], [], M)) (S2 := (10, [(0, .ref x), (1, .int x1)], [], M)) rfl rfl rfl (fun c_7 => ?_) (fun c_7 => ?_)
    rotate_left
    · exact absurd (hq1) (of_decide_eq_false c_7)
    refine ml_st (S' := (21, [(0, .ref x), (1, .int x1)], [.ref x], M)) rfl rfl rfl ?_
    refine mo_get (S' := (24, [(0, .ref x), (1, .int x1)], [.ref kc], M)) rfl hx rfl rfl ?_
    refine ml_st (S' := (31, [(0, .ref x), (1, .int x1)], [], M)) rfl rfl rfl ?_
    refine ml_st (S' := (32, [(0, .ref x), (1, .int x1)], [.ref x], M)) rfl rfl rfl ?_
    refine mo_get (S' := (35, [(0, .ref x), (1, .int x1)], [.ref kc], M)) rfl hx rfl rfl ?_
    refine ml_st (S' := (36, [(0, .ref x), (1, .int x1)], [.int x1, .ref kc], M)) rfl rfl rfl ?_
    refine ml_call (a := [.ref kc, .int x1]) (rest := []) rfl (okc_t rfl rfl rfl hS.1 hyk (by decide)) rfl rfl (tw_Cl_number hS.1 hyk h1 (by omega)) (fun v2 M3 h4 => ?_)
    obtain ⟨⟨u5, rfl⟩, h4⟩ := h4
    rw [h4]
    show ml _ _ _ (39, [], [.int u5], M) _
    exact ml_ret rfl (rfl) (⟨⟨_, rfl⟩, rfl⟩)
set_option maxHeartbeats 2000000 in
theorem tq_entry {g : xe_G} {M : mi_H} {Y : yT} {x cm fl B : Nat} {cc wp : Int32} {kv : Value} {x1 x2 : Int32} (hW : WF g Y M) (hx : M.1 x = some (ob 11 [.ref cm, .int cc, .ref fl, kv, .int wp])) (hxn : Y.1 x = none) (hxl : x < M.2.1) (hkv : kvOk Y kv B) (hq0 : ¬ x2 < 0) (hq1 : x2 ≤ 2) {d : Nat} (hd : 9 ≤ d) : mt (mT g) d 8 [.ref x, .int x1, .int x2] M (pI M) := by
  obtain ⟨d, rfl⟩ : ∃ e, d = e + 1 := ⟨d - 1, by omega⟩
  refine mt_in (b := mb_8 g) rfl rfl ?_
  rcases hkv with rfl | ⟨kc, kb, kd, kn, rfl, hyk, hkB⟩
  · show ml (mT g) d (mb_8 g).2 (0, [(0, .ref x), (1, .int x1), (2, .int x2)], [], M) _
    have hS : st g Y M M := st.rf hW
    refine ml_st (S' := (1, [(0, .ref x), (1, .int x1), (2, .int x2)], [.int x2], M)) rfl rfl rfl ?_
    refine ml_if (S1 := (9, [(0, .ref x), (1, .int x1), (2, .int x2)], [], M)) (S2 := (4, [(0, .ref x), (1, .int x1), (2, .int x2)], [], M)) rfl rfl rfl (fun c_1 => ?_) (fun c_1 => ?_)
    · exact absurd (of_decide_eq_true c_1) (hq0)
    refine ml_blk 2 (S' := (6, [(0, .ref x), (1, .int x1), (2, .int x2)], [.int 2, .int x2], M)) rfl ?_
    refine ml_if2 (S1 := (19, [(0, .ref x), (1, .int x1), (2, .int x2)], [], M)) (S2 := (9, [(0, .ref x), (1, .int x1), (2, .int x2)], [], M)) rfl rfl rfl (fun c_6 => ?_) (fun c_6 => ?_)
    rotate_left
    · exact absurd (hq1) (of_decide_eq_false c_6)
    refine ml_st (S' := (20, [(0, .ref x), (1, .int x1), (2, .int x2)], [.ref x], M)) rfl rfl rfl ?_
    refine mo_get (S' := (23, [(0, .ref x), (1, .int x1), (2, .int x2)], [.null], M)) rfl hx rfl rfl ?_
    refine ml_st (S' := (44, [], [], M)) rfl rfl rfl ?_
    refine ml_st (S' := (45, [], [.int (-1)], M)) rfl rfl rfl ?_
    exact ml_ret rfl (rfl) (⟨⟨_, rfl⟩, rfl⟩)
  · show ml (mT g) d (mb_8 g).2 (0, [(0, .ref x), (1, .int x1), (2, .int x2)], [], M) _
    have hS : st g Y M M := st.rf hW
    have h1 := hS.1.lnk hyk (by decide)
    refine ml_st (S' := (1, [(0, .ref x), (1, .int x1), (2, .int x2)], [.int x2], M)) rfl rfl rfl ?_
    refine ml_if (S1 := (9, [(0, .ref x), (1, .int x1), (2, .int x2)], [], M)) (S2 := (4, [(0, .ref x), (1, .int x1), (2, .int x2)], [], M)) rfl rfl rfl (fun c_1 => ?_) (fun c_1 => ?_)
    · exact absurd (of_decide_eq_true c_1) (hq0)
    refine ml_blk 2 (S' := (6, [(0, .ref x), (1, .int x1), (2, .int x2)], [.int 2, .int x2], M)) rfl ?_
    refine ml_if2 (S1 := (19, [(0, .ref x), (1, .int x1), (2, .int x2)], [], M)) (S2 := (9, [(0, .ref x), (1, .int x1), (2, .int x2)], [], M)) rfl rfl rfl (fun c_6 => ?_) (fun c_6 => ?_)
    rotate_left
    · exact absurd (hq1) (of_decide_eq_false c_6)
    refine ml_st (S' := (20, [(0, .ref x), (1, .int x1), (2, .int x2)], [.ref x], M)) rfl rfl rfl ?_
    refine mo_get (S' := (23, [(0, .ref x), (1, .int x1), (2, .int x2)], [.ref kc], M)) rfl hx rfl rfl ?_
    refine ml_st (S' := (26, [(0, .ref x), (1, .int x1), (2, .int x2)], [], M)) rfl rfl rfl ?_
    refine ml_st (S' := (27, [(0, .ref x), (1, .int x1), (2, .int x2)], [.int x1], M)) rfl rfl rfl ?_
    refine ml_if (S1 := (44, [], [], M)) (S2 := (30, [(0, .ref x), (1, .int x1), (2, .int x2)], [], M)) rfl rfl rfl (fun c_27 => ?_) (fun c_27 => ?_)
    · have c_27 : x1 < 0 := of_decide_eq_true c_27
      refine ml_st (S' := (45, [], [.int (-1)], M)) rfl rfl rfl ?_
      exact ml_ret rfl (rfl) (⟨⟨_, rfl⟩, rfl⟩)
    · have c_27 : ¬ (x1 < 0) := of_decide_eq_false c_27
      refine ml_blk 2 (S' := (32, [(0, .ref x), (1, .int x1), (2, .int x2)], [.ref x, .int x1], M)) rfl ?_
      refine mo_get (S' := (35, [(0, .ref x), (1, .int x1), (2, .int x2)], [.ref kc, .int x1], M)) rfl hx rfl rfl ?_
      refine tg_vo rfl hS.1 hyk (by decide) rfl (fun b2 g4 h3 => ?_)
      obtain ⟨s5, h3⟩ := h3
      show ml _ _ _ (38, [(0, .ref x), (1, .int x1), (2, .int x2)], [.ref b2, .int x1], M) _
      refine tg_pint rfl hS.1 h3 rfl (fun u6 g7 => ?_)
      show ml _ _ _ (41, [(0, .ref x), (1, .int x1), (2, .int x2)], [.int u6, .int x1], M) _
      refine ml_if2 (S1 := (46, [(0, .ref x), (1, .int x1), (2, .int x2)], [], M)) (S2 := (44, [], [], M)) rfl rfl rfl (fun c_41 => ?_) (fun c_41 => ?_)
      · have c_41 : x1 < u6 := of_decide_eq_true c_41
        refine ml_st (S' := (47, [(0, .ref x), (1, .int x1), (2, .int x2)], [.int x2], M)) rfl rfl rfl ?_
        refine ml_if (S1 := (62, [(0, .ref x), (1, .int x1), (2, .int x2)], [], M)) (S2 := (50, [(0, .ref x), (1, .int x1), (2, .int x2)], [], M)) rfl rfl rfl (fun c_47 => ?_) (fun c_47 => ?_)
        · have c_47 : ¬ x2 = 0 := of_decide_eq_true c_47
          refine ml_blk 2 (S' := (64, [(0, .ref x), (1, .int x1), (2, .int x2)], [.int 1, .int x2], M)) rfl ?_
          refine ml_if2 (S1 := (81, [(0, .ref x), (1, .int x1), (2, .int x2)], [], M)) (S2 := (67, [(0, .ref x), (1, .int x1), (2, .int x2)], [], M)) rfl rfl rfl (fun c_64 => ?_) (fun c_64 => ?_)
          · have c_64 : ¬ x2 = 1 := of_decide_eq_true c_64
            refine ml_st (S' := (82, [(0, .ref x), (1, .int x1), (2, .int x2)], [.ref x], M)) rfl rfl rfl ?_
            refine mo_get (S' := (85, [(0, .ref x), (1, .int x1), (2, .int x2)], [.ref kc], M)) rfl hx rfl rfl ?_
            refine ml_get (S' := (88, [(0, .ref x), (1, .int x1), (2, .int x2)], [.ref b2], M)) rfl g4 rfl ?_
            refine ml_st (S' := (89, [(0, .ref x), (1, .int x1), (2, .int x2)], [.int x1, .ref b2], M)) rfl rfl rfl ?_
            refine ml_call (a := [.ref b2, .int x1]) (rest := []) rfl (okc_t rfl rfl rfl hS.1 h3 (by decide)) rfl rfl (tq_secondIndex hS.1 h3 (by omega)) (fun v8 M9 h10 => ?_)
            obtain ⟨⟨u11, rfl⟩, h10⟩ := h10
            rw [h10]
            show ml _ _ _ (92, [], [.int u11], M) _
            exact ml_ret rfl (rfl) (⟨⟨_, rfl⟩, rfl⟩)
          · have c_64 : ¬ (¬ x2 = 1) := of_decide_eq_false c_64
            refine ml_st (S' := (68, [(0, .ref x), (1, .int x1), (2, .int x2)], [.ref x], M)) rfl rfl rfl ?_
            refine mo_get (S' := (71, [(0, .ref x), (1, .int x1), (2, .int x2)], [.ref kc], M)) rfl hx rfl rfl ?_
            refine ml_get (S' := (74, [(0, .ref x), (1, .int x1), (2, .int x2)], [.ref b2], M)) rfl g4 rfl ?_
            refine ml_st (S' := (75, [(0, .ref x), (1, .int x1), (2, .int x2)], [.int x1, .ref b2], M)) rfl rfl rfl ?_
            refine ml_call (a := [.ref b2, .int x1]) (rest := []) rfl (okc_t rfl rfl rfl hS.1 h3 (by decide)) rfl rfl (tq_firstIndex hS.1 h3 (by omega)) (fun v12 M13 h14 => ?_)
            obtain ⟨⟨u15, rfl⟩, h14⟩ := h14
            rw [h14]
            show ml _ _ _ (78, [(0, .ref x), (1, .int x1), (2, .int x2)], [.int u15], M) _
            refine ml_st (S' := (92, [], [.int u15], M)) rfl rfl rfl ?_
            exact ml_ret rfl (rfl) (⟨⟨_, rfl⟩, rfl⟩)
        · have c_47 : ¬ (¬ x2 = 0) := of_decide_eq_false c_47
          refine ml_st (S' := (51, [(0, .ref x), (1, .int x1), (2, .int x2)], [.ref x], M)) rfl rfl rfl ?_
          refine mo_get (S' := (54, [(0, .ref x), (1, .int x1), (2, .int x2)], [.ref kc], M)) rfl hx rfl rfl ?_
          refine ml_get (S' := (57, [(0, .ref x), (1, .int x1), (2, .int x2)], [.ref b2], M)) rfl g4 rfl ?_
          refine ml_st (S' := (58, [(0, .ref x), (1, .int x1), (2, .int x2)], [.int x1, .ref b2], M)) rfl rfl rfl ?_
          refine ml_call (a := [.ref b2, .int x1]) (rest := []) rfl (okc_t rfl rfl rfl hS.1 h3 (by decide)) rfl rfl (tq_tagOf hS.1 h3 (by omega)) (fun v16 M17 h18 => ?_)
          obtain ⟨⟨u19, rfl⟩, h18⟩ := h18
          rw [h18]
          show ml _ _ _ (61, [(0, .ref x), (1, .int x1), (2, .int x2)], [.int u19], M) _
          exact ml_ret rfl (rfl) (⟨⟨_, rfl⟩, rfl⟩)
      · have c_41 : ¬ (x1 < u6) := of_decide_eq_false c_41
        refine ml_st (S' := (45, [], [.int (-1)], M)) rfl rfl rfl ?_
        exact ml_ret rfl (rfl) (⟨⟨_, rfl⟩, rfl⟩)
set_option maxHeartbeats 2000000 in
theorem tq_bits {g : xe_G} {M : mi_H} {Y : yT} {x cm fl B : Nat} {cc wp : Int32} {kv : Value} {x1 : Int32} (hW : WF g Y M) (hx : M.1 x = some (ob 11 [.ref cm, .int cc, .ref fl, kv, .int wp])) (hxn : Y.1 x = none) (hxl : x < M.2.1) (hkv : kvOk Y kv B) {d : Nat} (hd : 9 ≤ d) : mt (mT g) d 1 [.ref x, .int x1] M (pL M) := by
  obtain ⟨d, rfl⟩ : ∃ e, d = e + 1 := ⟨d - 1, by omega⟩
  refine mt_in (b := mb_1 g) rfl rfl ?_
  rcases hkv with rfl | ⟨kc, kb, kd, kn, rfl, hyk, hkB⟩
  · show ml (mT g) d (mb_1 g).2 (0, [(0, .ref x), (1, .int x1)], [], M) _
    have hS : st g Y M M := st.rf hW
    refine ml_st (S' := (1, [(0, .ref x), (1, .int x1)], [.ref x], M)) rfl rfl rfl ?_
    refine mo_get (S' := (4, [(0, .ref x), (1, .int x1)], [.null], M)) rfl hx rfl rfl ?_
    refine ml_st (S' := (7, [(0, .ref x), (1, .int x1)], [], M)) rfl rfl rfl ?_
    refine ml_st (S' := (8, [(0, .ref x), (1, .int x1)], [.long 0], M)) rfl rfl rfl ?_
    exact ml_ret rfl (rfl) (⟨⟨_, rfl⟩, rfl⟩)
  · show ml (mT g) d (mb_1 g).2 (0, [(0, .ref x), (1, .int x1)], [], M) _
    have hS : st g Y M M := st.rf hW
    have h1 := hS.1.lnk hyk (by decide)
    refine ml_st (S' := (1, [(0, .ref x), (1, .int x1)], [.ref x], M)) rfl rfl rfl ?_
    refine mo_get (S' := (4, [(0, .ref x), (1, .int x1)], [.ref kc], M)) rfl hx rfl rfl ?_
    refine ml_st (S' := (9, [(0, .ref x), (1, .int x1)], [], M)) rfl rfl rfl ?_
    refine ml_st (S' := (10, [(0, .ref x), (1, .int x1)], [.ref x], M)) rfl rfl rfl ?_
    refine mo_get (S' := (13, [(0, .ref x), (1, .int x1)], [.ref kc], M)) rfl hx rfl rfl ?_
    refine tg_vo rfl hS.1 hyk (by decide) rfl (fun b2 g4 h3 => ?_)
    obtain ⟨s5, h3⟩ := h3
    show ml _ _ _ (16, [(0, .ref x), (1, .int x1)], [.ref b2], M) _
    refine ml_st (S' := (17, [(0, .ref x), (1, .int x1)], [.int x1, .ref b2], M)) rfl rfl rfl ?_
    refine ml_call (a := [.ref b2, .int x1]) (rest := []) rfl (okc_t rfl rfl rfl hS.1 h3 (by decide)) rfl rfl (tq_tagOf hS.1 h3 (by omega)) (fun v6 M7 h8 => ?_)
    obtain ⟨⟨u9, rfl⟩, h8⟩ := h8
    rw [h8]
    show ml _ _ _ (20, [(0, .ref x), (1, .int x1)], [.int u9], M) _
    refine ml_st (S' := (21, [(2, .int u9), (0, .ref x), (1, .int x1)], [], M)) rfl rfl rfl ?_
    refine ml_st (S' := (22, [(2, .int u9), (0, .ref x), (1, .int x1)], [.ref x], M)) rfl rfl rfl ?_
    refine mo_get (S' := (25, [(2, .int u9), (0, .ref x), (1, .int x1)], [.ref kc], M)) rfl hx rfl rfl ?_
    refine ml_get (S' := (28, [(2, .int u9), (0, .ref x), (1, .int x1)], [.ref b2], M)) rfl g4 rfl ?_
    refine ml_st (S' := (29, [(2, .int u9), (0, .ref x), (1, .int x1)], [.int x1, .ref b2], M)) rfl rfl rfl ?_
    refine ml_call (a := [.ref b2, .int x1]) (rest := []) rfl (okc_t rfl rfl rfl hS.1 h3 (by decide)) rfl rfl (tq_tagPlace hS.1 h3 (by omega)) (fun v10 M11 h12 => ?_)
    obtain ⟨⟨u13, rfl⟩, h12⟩ := h12
    rw [h12]
    show ml _ _ _ (32, [(2, .int u9), (0, .ref x), (1, .int x1)], [.int u13], M) _
    refine ml_blk 2 (S' := (34, [(2, .int u9), (0, .ref x), (1, .int x1)], [.int (u13 + 1)], M)) rfl ?_
    refine ml_st (S' := (35, [(3, .int (u13 + 1)), (2, .int u9), (0, .ref x), (1, .int x1)], [], M)) rfl rfl rfl ?_
    refine ml_blk 2 (S' := (37, [(3, .int (u13 + 1)), (2, .int u9), (0, .ref x), (1, .int x1)], [.int 3, .int u9], M)) rfl ?_
    refine ml_if2 (S1 := (45, [(0, .ref x), (3, .int (u13 + 1))], [], M)) (S2 := (40, [(3, .int (u13 + 1)), (2, .int u9), (0, .ref x), (1, .int x1)], [], M)) rfl rfl rfl (fun c_37 => ?_) (fun c_37 => ?_)
    · have c_37 : u9 = 3 := of_decide_eq_true c_37
      refine ml_st (S' := (46, [(0, .ref x), (3, .int (u13 + 1))], [.ref x], M)) rfl rfl rfl ?_
      refine mo_get (S' := (49, [(0, .ref x), (3, .int (u13 + 1))], [.ref kc], M)) rfl hx rfl rfl ?_
      refine tg_ref (S' := (52, [(0, .ref x), (3, .int (u13 + 1))], [.ref kb], M)) rfl hS.1 hyk (by decide) rfl rfl ?_
      refine ml_st (S' := (53, [(0, .ref x), (3, .int (u13 + 1))], [.int (u13 + 1), .ref kb], M)) rfl rfl rfl ?_
      refine ml_call (a := [.ref kb, .int (u13 + 1)]) (rest := []) rfl (okc_t rfl rfl rfl hS.1 h1 (by decide)) rfl rfl (tq_u4 hS.1 h1 (by omega)) (fun v14 M15 h16 => ?_)
      obtain ⟨⟨u17, rfl⟩, h16⟩ := h16
      rw [h16]
      show ml _ _ _ (56, [(0, .ref x), (3, .int (u13 + 1))], [.int u17], M) _
      refine ml_st (S' := (57, [(0, .ref x), (3, .int (u13 + 1))], [.long (Int32.toInt64 u17)], M)) rfl rfl rfl ?_
      exact ml_ret rfl (rfl) (⟨⟨_, rfl⟩, rfl⟩)
    · have c_37 : ¬ (u9 = 3) := of_decide_eq_false c_37
      refine ml_blk 2 (S' := (42, [(3, .int (u13 + 1)), (2, .int u9), (0, .ref x), (1, .int x1)], [.int 4, .int u9], M)) rfl ?_
      refine ml_if2 (S1 := (58, [(3, .int (u13 + 1)), (2, .int u9), (0, .ref x), (1, .int x1)], [], M)) (S2 := (45, [(0, .ref x), (3, .int (u13 + 1))], [], M)) rfl rfl rfl (fun c_42 => ?_) (fun c_42 => ?_)
      · have c_42 : ¬ u9 = 4 := of_decide_eq_true c_42
        refine ml_blk 2 (S' := (60, [(3, .int (u13 + 1)), (2, .int u9), (0, .ref x), (1, .int x1)], [.int 5, .int u9], M)) rfl ?_
        refine ml_if2 (S1 := (69, [(0, .ref x), (3, .int (u13 + 1))], [], M)) (S2 := (63, [(3, .int (u13 + 1)), (2, .int u9), (0, .ref x), (1, .int x1)], [], M)) rfl rfl rfl (fun c_60 => ?_) (fun c_60 => ?_)
        · have c_60 : u9 = 5 := of_decide_eq_true c_60
          refine ml_st (S' := (70, [(0, .ref x), (3, .int (u13 + 1))], [.ref x], M)) rfl rfl rfl ?_
          refine mo_get (S' := (73, [(0, .ref x), (3, .int (u13 + 1))], [.ref kc], M)) rfl hx rfl rfl ?_
          refine tg_ref (S' := (76, [(0, .ref x), (3, .int (u13 + 1))], [.ref kb], M)) rfl hS.1 hyk (by decide) rfl rfl ?_
          refine ml_st (S' := (77, [(0, .ref x), (3, .int (u13 + 1))], [.int (u13 + 1), .ref kb], M)) rfl rfl rfl ?_
          refine ml_call (a := [.ref kb, .int (u13 + 1)]) (rest := []) rfl (okc_t rfl rfl rfl hS.1 h1 (by decide)) rfl rfl (tq_u4 hS.1 h1 (by omega)) (fun v18 M19 h20 => ?_)
          obtain ⟨⟨u21, rfl⟩, h20⟩ := h20
          rw [h20]
          show ml _ _ _ (80, [(0, .ref x), (3, .int (u13 + 1))], [.int u21], M) _
          refine ml_blk 3 (S' := (84, [(0, .ref x), (3, .int (u13 + 1))], [.long ((Int32.toInt64 u21) <<< (Int32.toInt64 32 &&& 63))], M)) rfl ?_
          refine ml_st (S' := (85, [(0, .ref x), (3, .int (u13 + 1))], [.ref x, .long ((Int32.toInt64 u21) <<< (Int32.toInt64 32 &&& 63))], M)) rfl rfl rfl ?_
          refine mo_get (S' := (88, [(0, .ref x), (3, .int (u13 + 1))], [.ref kc, .long ((Int32.toInt64 u21) <<< (Int32.toInt64 32 &&& 63))], M)) rfl hx rfl rfl ?_
          refine tg_ref (S' := (91, [(0, .ref x), (3, .int (u13 + 1))], [.ref kb, .long ((Int32.toInt64 u21) <<< (Int32.toInt64 32 &&& 63))], M)) rfl hS.1 hyk (by decide) rfl rfl ?_
          refine ml_blk 3 (S' := (94, [(0, .ref x), (3, .int (u13 + 1))], [.int ((u13 + 1) + 4), .ref kb, .long ((Int32.toInt64 u21) <<< (Int32.toInt64 32 &&& 63))], M)) rfl ?_
          refine ml_call (a := [.ref kb, .int ((u13 + 1) + 4)]) (rest := [.long ((Int32.toInt64 u21) <<< (Int32.toInt64 32 &&& 63))]) rfl (okc_t rfl rfl rfl hS.1 h1 (by decide)) rfl rfl (tq_u4 hS.1 h1 (by omega)) (fun v22 M23 h24 => ?_)
          obtain ⟨⟨u25, rfl⟩, h24⟩ := h24
          rw [h24]
          show ml _ _ _ (97, [(0, .ref x), (3, .int (u13 + 1))], [.int u25, .long ((Int32.toInt64 u21) <<< (Int32.toInt64 32 &&& 63))], M) _
          refine ml_blk 3 (S' := (102, [(0, .ref x), (3, .int (u13 + 1))], [.long ((Int32.toInt64 u25) &&& 4294967295), .long ((Int32.toInt64 u21) <<< (Int32.toInt64 32 &&& 63))], M)) rfl ?_
          refine ml_st (S' := (103, [(0, .ref x), (3, .int (u13 + 1))], [.long (((Int32.toInt64 u21) <<< (Int32.toInt64 32 &&& 63)) ||| ((Int32.toInt64 u25) &&& 4294967295))], M)) rfl rfl rfl ?_
          exact ml_ret rfl (rfl) (⟨⟨_, rfl⟩, rfl⟩)
        · have c_60 : ¬ (u9 = 5) := of_decide_eq_false c_60
          refine ml_blk 2 (S' := (66, [(3, .int (u13 + 1)), (2, .int u9), (0, .ref x), (1, .int x1)], [.int 6, .int u9], M)) rfl ?_
          refine ml_if2 (S1 := (104, [(3, .int (u13 + 1)), (2, .int u9), (0, .ref x), (1, .int x1)], [], M)) (S2 := (69, [(0, .ref x), (3, .int (u13 + 1))], [], M)) rfl rfl rfl (fun c_66 => ?_) (fun c_66 => ?_)
          · have c_66 : ¬ u9 = 6 := of_decide_eq_true c_66
            refine ml_st (S' := (105, [(3, .int (u13 + 1)), (2, .int u9), (0, .ref x), (1, .int x1)], [.long 0], M)) rfl rfl rfl ?_
            exact ml_ret rfl (rfl) (⟨⟨_, rfl⟩, rfl⟩)
          · have c_66 : ¬ (¬ u9 = 6) := of_decide_eq_false c_66
            refine ml_st (S' := (70, [(0, .ref x), (3, .int (u13 + 1))], [.ref x], M)) rfl rfl rfl ?_
            refine mo_get (S' := (73, [(0, .ref x), (3, .int (u13 + 1))], [.ref kc], M)) rfl hx rfl rfl ?_
            refine tg_ref (S' := (76, [(0, .ref x), (3, .int (u13 + 1))], [.ref kb], M)) rfl hS.1 hyk (by decide) rfl rfl ?_
            refine ml_st (S' := (77, [(0, .ref x), (3, .int (u13 + 1))], [.int (u13 + 1), .ref kb], M)) rfl rfl rfl ?_
            refine ml_call (a := [.ref kb, .int (u13 + 1)]) (rest := []) rfl (okc_t rfl rfl rfl hS.1 h1 (by decide)) rfl rfl (tq_u4 hS.1 h1 (by omega)) (fun v26 M27 h28 => ?_)
            obtain ⟨⟨u29, rfl⟩, h28⟩ := h28
            rw [h28]
            show ml _ _ _ (80, [(0, .ref x), (3, .int (u13 + 1))], [.int u29], M) _
            refine ml_blk 3 (S' := (84, [(0, .ref x), (3, .int (u13 + 1))], [.long ((Int32.toInt64 u29) <<< (Int32.toInt64 32 &&& 63))], M)) rfl ?_
            refine ml_st (S' := (85, [(0, .ref x), (3, .int (u13 + 1))], [.ref x, .long ((Int32.toInt64 u29) <<< (Int32.toInt64 32 &&& 63))], M)) rfl rfl rfl ?_
            refine mo_get (S' := (88, [(0, .ref x), (3, .int (u13 + 1))], [.ref kc, .long ((Int32.toInt64 u29) <<< (Int32.toInt64 32 &&& 63))], M)) rfl hx rfl rfl ?_
            refine tg_ref (S' := (91, [(0, .ref x), (3, .int (u13 + 1))], [.ref kb, .long ((Int32.toInt64 u29) <<< (Int32.toInt64 32 &&& 63))], M)) rfl hS.1 hyk (by decide) rfl rfl ?_
            refine ml_blk 3 (S' := (94, [(0, .ref x), (3, .int (u13 + 1))], [.int ((u13 + 1) + 4), .ref kb, .long ((Int32.toInt64 u29) <<< (Int32.toInt64 32 &&& 63))], M)) rfl ?_
            refine ml_call (a := [.ref kb, .int ((u13 + 1) + 4)]) (rest := [.long ((Int32.toInt64 u29) <<< (Int32.toInt64 32 &&& 63))]) rfl (okc_t rfl rfl rfl hS.1 h1 (by decide)) rfl rfl (tq_u4 hS.1 h1 (by omega)) (fun v30 M31 h32 => ?_)
            obtain ⟨⟨u33, rfl⟩, h32⟩ := h32
            rw [h32]
            show ml _ _ _ (97, [(0, .ref x), (3, .int (u13 + 1))], [.int u33, .long ((Int32.toInt64 u29) <<< (Int32.toInt64 32 &&& 63))], M) _
            refine ml_blk 3 (S' := (102, [(0, .ref x), (3, .int (u13 + 1))], [.long ((Int32.toInt64 u33) &&& 4294967295), .long ((Int32.toInt64 u29) <<< (Int32.toInt64 32 &&& 63))], M)) rfl ?_
            refine ml_st (S' := (103, [(0, .ref x), (3, .int (u13 + 1))], [.long (((Int32.toInt64 u29) <<< (Int32.toInt64 32 &&& 63)) ||| ((Int32.toInt64 u33) &&& 4294967295))], M)) rfl rfl rfl ?_
            exact ml_ret rfl (rfl) (⟨⟨_, rfl⟩, rfl⟩)
      · have c_42 : ¬ (¬ u9 = 4) := of_decide_eq_false c_42
        refine ml_st (S' := (46, [(0, .ref x), (3, .int (u13 + 1))], [.ref x], M)) rfl rfl rfl ?_
        refine mo_get (S' := (49, [(0, .ref x), (3, .int (u13 + 1))], [.ref kc], M)) rfl hx rfl rfl ?_
        refine tg_ref (S' := (52, [(0, .ref x), (3, .int (u13 + 1))], [.ref kb], M)) rfl hS.1 hyk (by decide) rfl rfl ?_
        refine ml_st (S' := (53, [(0, .ref x), (3, .int (u13 + 1))], [.int (u13 + 1), .ref kb], M)) rfl rfl rfl ?_
        refine ml_call (a := [.ref kb, .int (u13 + 1)]) (rest := []) rfl (okc_t rfl rfl rfl hS.1 h1 (by decide)) rfl rfl (tq_u4 hS.1 h1 (by omega)) (fun v34 M35 h36 => ?_)
        obtain ⟨⟨u37, rfl⟩, h36⟩ := h36
        rw [h36]
        show ml _ _ _ (56, [(0, .ref x), (3, .int (u13 + 1))], [.int u37], M) _
        refine ml_st (S' := (57, [(0, .ref x), (3, .int (u13 + 1))], [.long (Int32.toInt64 u37)], M)) rfl rfl rfl ?_
        exact ml_ret rfl (rfl) (⟨⟨_, rfl⟩, rfl⟩)
set_option maxHeartbeats 2000000 in
theorem tq_character {g : xe_G} {M : mi_H} {Y : yT} {x cm fl B : Nat} {cc wp : Int32} {kv : Value} {x1 x2 : Int32} (hW : WF g Y M) (hx : M.1 x = some (ob 11 [.ref cm, .int cc, .ref fl, kv, .int wp])) (hxn : Y.1 x = none) (hxl : x < M.2.1) (hkv : kvOk Y kv B) {d : Nat} (hd : 9 ≤ d) : mt (mT g) d 3 [.ref x, .int x1, .int x2] M (pI M) := by
  obtain ⟨d, rfl⟩ : ∃ e, d = e + 1 := ⟨d - 1, by omega⟩
  refine mt_in (b := mb_3 g) rfl rfl ?_
  rcases hkv with rfl | ⟨kc, kb, kd, kn, rfl, hyk, hkB⟩
  · show ml (mT g) d (mb_3 g).2 (0, [(0, .ref x), (1, .int x1), (2, .int x2)], [], M) _
    have hS : st g Y M M := st.rf hW
    refine ml_st (S' := (1, [(0, .ref x), (1, .int x1), (2, .int x2)], [.ref x], M)) rfl rfl rfl ?_
    refine mo_get (S' := (4, [(0, .ref x), (1, .int x1), (2, .int x2)], [.null], M)) rfl hx rfl rfl ?_
    refine ml_st (S' := (7, [(0, .ref x), (1, .int x1), (2, .int x2)], [], M)) rfl rfl rfl ?_
    refine ml_st (S' := (8, [(0, .ref x), (1, .int x1), (2, .int x2)], [.int (-1)], M)) rfl rfl rfl ?_
    refine ml_st (S' := (23, [], [.int (-1)], M)) rfl rfl rfl ?_
    exact ml_ret rfl (rfl) (⟨⟨_, rfl⟩, rfl⟩)
  · show ml (mT g) d (mb_3 g).2 (0, [(0, .ref x), (1, .int x1), (2, .int x2)], [], M) _
    have hS : st g Y M M := st.rf hW
    have h1 := hS.1.lnk hyk (by decide)
    refine ml_st (S' := (1, [(0, .ref x), (1, .int x1), (2, .int x2)], [.ref x], M)) rfl rfl rfl ?_
    refine mo_get (S' := (4, [(0, .ref x), (1, .int x1), (2, .int x2)], [.ref kc], M)) rfl hx rfl rfl ?_
    refine ml_st (S' := (11, [(0, .ref x), (1, .int x1), (2, .int x2)], [], M)) rfl rfl rfl ?_
    refine ml_st (S' := (12, [(0, .ref x), (1, .int x1), (2, .int x2)], [.ref x], M)) rfl rfl rfl ?_
    refine mo_get (S' := (15, [(0, .ref x), (1, .int x1), (2, .int x2)], [.ref kc], M)) rfl hx rfl rfl ?_
    refine tg_vo rfl hS.1 hyk (by decide) rfl (fun b2 g4 h3 => ?_)
    obtain ⟨s5, h3⟩ := h3
    show ml _ _ _ (18, [(0, .ref x), (1, .int x1), (2, .int x2)], [.ref b2], M) _
    refine ml_blk 2 (S' := (20, [(0, .ref x), (1, .int x1), (2, .int x2)], [.int x2, .int x1, .ref b2], M)) rfl ?_
    refine ml_call (a := [.ref b2, .int x1, .int x2]) (rest := []) rfl (okc_t rfl rfl rfl hS.1 h3 (by decide)) rfl rfl (tq_characterAt hS.1 h3 (by omega)) (fun v6 M7 h8 => ?_)
    obtain ⟨⟨u9, rfl⟩, h8⟩ := h8
    rw [h8]
    show ml _ _ _ (23, [], [.int u9], M) _
    exact ml_ret rfl (rfl) (⟨⟨_, rfl⟩, rfl⟩)
set_option maxHeartbeats 2000000 in
theorem tq_places {g : xe_G} {M : mi_H} {Y : yT} {x cm fl B : Nat} {cc wp : Int32} {kv : Value} {x1 : Int32} (hW : WF g Y M) (hx : M.1 x = some (ob 11 [.ref cm, .int cc, .ref fl, kv, .int wp])) (hxn : Y.1 x = none) (hxl : x < M.2.1) (hkv : kvOk Y kv B) {d : Nat} (hd : 9 ≤ d) : mt (mT g) d 17 [.ref x, .int x1] M (pI M) := by
  obtain ⟨d, rfl⟩ : ∃ e, d = e + 1 := ⟨d - 1, by omega⟩
  refine mt_in (b := mb_17 g) rfl rfl ?_
  rcases hkv with rfl | ⟨kc, kb, kd, kn, rfl, hyk, hkB⟩
  · show ml (mT g) d (mb_17 g).2 (0, [(0, .ref x), (1, .int x1)], [], M) _
    have hS : st g Y M M := st.rf hW
    refine ml_st (S' := (1, [(0, .ref x), (1, .int x1)], [.ref x], M)) rfl rfl rfl ?_
    refine mo_get (S' := (4, [(0, .ref x), (1, .int x1)], [.null], M)) rfl hx rfl rfl ?_
    refine ml_st (S' := (7, [(0, .ref x), (1, .int x1)], [], M)) rfl rfl rfl ?_
    refine ml_st (S' := (8, [(0, .ref x), (1, .int x1)], [.int (-1)], M)) rfl rfl rfl ?_
    refine ml_st (S' := (22, [], [.int (-1)], M)) rfl rfl rfl ?_
    exact ml_ret rfl (rfl) (⟨⟨_, rfl⟩, rfl⟩)
  · show ml (mT g) d (mb_17 g).2 (0, [(0, .ref x), (1, .int x1)], [], M) _
    have hS : st g Y M M := st.rf hW
    have h1 := hS.1.lnk hyk (by decide)
    refine ml_st (S' := (1, [(0, .ref x), (1, .int x1)], [.ref x], M)) rfl rfl rfl ?_
    refine mo_get (S' := (4, [(0, .ref x), (1, .int x1)], [.ref kc], M)) rfl hx rfl rfl ?_
    refine ml_st (S' := (11, [(0, .ref x), (1, .int x1)], [], M)) rfl rfl rfl ?_
    refine ml_st (S' := (12, [(0, .ref x), (1, .int x1)], [.ref x], M)) rfl rfl rfl ?_
    refine mo_get (S' := (15, [(0, .ref x), (1, .int x1)], [.ref kc], M)) rfl hx rfl rfl ?_
    refine tg_vo rfl hS.1 hyk (by decide) rfl (fun b2 g4 h3 => ?_)
    obtain ⟨s5, h3⟩ := h3
    show ml _ _ _ (18, [(0, .ref x), (1, .int x1)], [.ref b2], M) _
    refine ml_st (S' := (19, [(0, .ref x), (1, .int x1)], [.int x1, .ref b2], M)) rfl rfl rfl ?_
    refine ml_call (a := [.ref b2, .int x1]) (rest := []) rfl (okc_t rfl rfl rfl hS.1 h3 (by decide)) rfl rfl (tq_placesTold hS.1 h3 (by omega)) (fun v6 M7 h8 => ?_)
    obtain ⟨⟨u9, rfl⟩, h8⟩ := h8
    rw [h8]
    show ml _ _ _ (22, [], [.int u9], M) _
    exact ml_ret rfl (rfl) (⟨⟨_, rfl⟩, rfl⟩)
set_option maxHeartbeats 2000000 in
theorem tq_member {g : xe_G} {M : mi_H} {Y : yT} {x cm fl B : Nat} {cc wp : Int32} {kv : Value} {x1 x2 x3 : Int32} (hW : WF g Y M) (hx : M.1 x = some (ob 11 [.ref cm, .int cc, .ref fl, kv, .int wp])) (hxn : Y.1 x = none) (hxl : x < M.2.1) (hkv : kvOk Y kv B) (hq0 : ¬ x3 < 0) (hq1 : x3 ≤ 9) {d : Nat} (hd : 9 ≤ d) : mt (mT g) d 15 [.ref x, .int x1, .int x2, .int x3] M (pI M) := by
  obtain ⟨d, rfl⟩ : ∃ e, d = e + 1 := ⟨d - 1, by omega⟩
  refine mt_in (b := mb_15 g) rfl rfl ?_
  rcases hkv with rfl | ⟨kc, kb, kd, kn, rfl, hyk, hkB⟩
  · show ml (mT g) d (mb_15 g).2 (0, [(0, .ref x), (1, .int x1), (2, .int x2), (3, .int x3)], [], M) _
    have hS : st g Y M M := st.rf hW
    refine ml_st (S' := (1, [(0, .ref x), (1, .int x1), (2, .int x2), (3, .int x3)], [.int x3], M)) rfl rfl rfl ?_
    refine ml_if (S1 := (10, [(0, .ref x), (1, .int x1), (2, .int x2), (3, .int x3)], [], M)) (S2 := (4, [(0, .ref x), (1, .int x1), (2, .int x2), (3, .int x3)], [], M)) rfl rfl rfl (fun c_1 => ?_) (fun c_1 => ?_)
    · exact absurd (of_decide_eq_true c_1) (hq0)
    refine ml_blk 2 (S' := (7, [(0, .ref x), (1, .int x1), (2, .int x2), (3, .int x3)], [.int 9, .int x3], M)) rfl ?_
    refine ml_if2 (S1 := (20, [(0, .ref x), (1, .int x1), (2, .int x2), (3, .int x3)], [], M)) (S2 := (10, [(0, .ref x), (1, .int x1), (2, .int x2), (3, .int x3)], [], M)) rfl rfl rfl (fun c_7 => ?_) (fun c_7 => ?_)
    rotate_left
    · exact absurd (hq1) (of_decide_eq_false c_7)
    refine ml_st (S' := (21, [(0, .ref x), (1, .int x1), (2, .int x2), (3, .int x3)], [.ref x], M)) rfl rfl rfl ?_
    refine mo_get (S' := (24, [(0, .ref x), (1, .int x1), (2, .int x2), (3, .int x3)], [.null], M)) rfl hx rfl rfl ?_
    refine ml_st (S' := (27, [(0, .ref x), (1, .int x1), (2, .int x2), (3, .int x3)], [], M)) rfl rfl rfl ?_
    refine ml_st (S' := (28, [(0, .ref x), (1, .int x1), (2, .int x2), (3, .int x3)], [.null], M)) rfl rfl rfl ?_
    refine ml_st (S' := (40, [(1, .int x1), (3, .int x3)], [.null], M)) rfl rfl rfl ?_
    refine ml_st (S' := (42, [(4, .null), (1, .int x1), (3, .int x3)], [], M)) rfl rfl rfl ?_
    refine ml_blk 2 (S' := (47, [(4, .null), (1, .int x1), (3, .int x3)], [], M)) rfl ?_
    refine ml_st (S' := (48, [(4, .null), (1, .int x1), (3, .int x3)], [.int (-1)], M)) rfl rfl rfl ?_
    refine ml_st (S' := (58, [], [.int (-1)], M)) rfl rfl rfl ?_
    exact ml_ret rfl (rfl) (⟨⟨_, rfl⟩, rfl⟩)
  · show ml (mT g) d (mb_15 g).2 (0, [(0, .ref x), (1, .int x1), (2, .int x2), (3, .int x3)], [], M) _
    have hS : st g Y M M := st.rf hW
    have h1 := hS.1.lnk hyk (by decide)
    refine ml_st (S' := (1, [(0, .ref x), (1, .int x1), (2, .int x2), (3, .int x3)], [.int x3], M)) rfl rfl rfl ?_
    refine ml_if (S1 := (10, [(0, .ref x), (1, .int x1), (2, .int x2), (3, .int x3)], [], M)) (S2 := (4, [(0, .ref x), (1, .int x1), (2, .int x2), (3, .int x3)], [], M)) rfl rfl rfl (fun c_1 => ?_) (fun c_1 => ?_)
    · exact absurd (of_decide_eq_true c_1) (hq0)
    refine ml_blk 2 (S' := (7, [(0, .ref x), (1, .int x1), (2, .int x2), (3, .int x3)], [.int 9, .int x3], M)) rfl ?_
    refine ml_if2 (S1 := (20, [(0, .ref x), (1, .int x1), (2, .int x2), (3, .int x3)], [], M)) (S2 := (10, [(0, .ref x), (1, .int x1), (2, .int x2), (3, .int x3)], [], M)) rfl rfl rfl (fun c_7 => ?_) (fun c_7 => ?_)
    rotate_left
    · exact absurd (hq1) (of_decide_eq_false c_7)
    refine ml_st (S' := (21, [(0, .ref x), (1, .int x1), (2, .int x2), (3, .int x3)], [.ref x], M)) rfl rfl rfl ?_
    refine mo_get (S' := (24, [(0, .ref x), (1, .int x1), (2, .int x2), (3, .int x3)], [.ref kc], M)) rfl hx rfl rfl ?_
    refine ml_st (S' := (31, [(0, .ref x), (1, .int x1), (2, .int x2), (3, .int x3)], [], M)) rfl rfl rfl ?_
    refine ml_st (S' := (32, [(0, .ref x), (1, .int x1), (2, .int x2), (3, .int x3)], [.ref x], M)) rfl rfl rfl ?_
    refine mo_get (S' := (35, [(0, .ref x), (1, .int x1), (2, .int x2), (3, .int x3)], [.ref kc], M)) rfl hx rfl rfl ?_
    refine ml_blk 2 (S' := (37, [(0, .ref x), (1, .int x1), (2, .int x2), (3, .int x3)], [.int x2, .int x1, .ref kc], M)) rfl ?_
    refine ml_call (a := [.ref kc, .int x1, .int x2]) (rest := []) rfl (okc_t rfl rfl rfl hS.1 hyk (by decide)) rfl rfl (tw_Cl_memberAt hS.1 hyk h1 (by omega)) (fun v2 M3 h4 => ?_)
    obtain ⟨hv6, h4⟩ := h4
    rw [h4]
    rcases hv6 with rfl | ⟨b7, rfl, h8⟩
    · show ml _ _ _ (40, [(1, .int x1), (3, .int x3)], [.null], M) _
      refine ml_st (S' := (42, [(4, .null), (1, .int x1), (3, .int x3)], [], M)) rfl rfl rfl ?_
      refine ml_blk 2 (S' := (47, [(4, .null), (1, .int x1), (3, .int x3)], [], M)) rfl ?_
      refine ml_st (S' := (48, [(4, .null), (1, .int x1), (3, .int x3)], [.int (-1)], M)) rfl rfl rfl ?_
      refine ml_st (S' := (58, [], [.int (-1)], M)) rfl rfl rfl ?_
      exact ml_ret rfl (rfl) (⟨⟨_, rfl⟩, rfl⟩)
    · show ml _ _ _ (40, [(1, .int x1), (3, .int x3)], [.ref b7], M) _
      refine ml_st (S' := (42, [(4, .ref b7), (1, .int x1), (3, .int x3)], [], M)) rfl rfl rfl ?_
      refine ml_blk 2 (S' := (51, [(4, .ref b7), (1, .int x1), (3, .int x3)], [], M)) rfl ?_
      refine ml_blk 3 (S' := (55, [(4, .ref b7), (1, .int x1), (3, .int x3)], [.int x3, .int x1, .ref b7], M)) rfl ?_
      refine ml_call (a := [.ref b7, .int x1, .int x3]) (rest := []) rfl (okc_t rfl rfl rfl hS.1 h8 (by decide)) rfl rfl (tw_Me_number hS.1 h8 (by omega)) (fun v9 M10 h11 => ?_)
      obtain ⟨⟨u12, rfl⟩, h11⟩ := h11
      rw [h11]
      show ml _ _ _ (58, [], [.int u12], M) _
      exact ml_ret rfl (rfl) (⟨⟨_, rfl⟩, rfl⟩)
set_option maxHeartbeats 2000000 in
theorem tq_find {g : xe_G} {M : mi_H} {Y : yT} {x cm fl B : Nat} {cc wp : Int32} {kv : Value} {x1 x2 x3 : Int32} (hW : WF g Y M) (hx : M.1 x = some (ob 11 [.ref cm, .int cc, .ref fl, kv, .int wp])) (hxn : Y.1 x = none) (hxl : x < M.2.1) (hkv : kvOk Y kv B) {d : Nat} (hd : 9 ≤ d) : mt (mT g) d 10 [.ref x, .int x1, .int x2, .int x3] M (pI M) := by
  obtain ⟨d, rfl⟩ : ∃ e, d = e + 1 := ⟨d - 1, by omega⟩
  refine mt_in (b := mb_10 g) rfl rfl ?_
  rcases hkv with rfl | ⟨kc, kb, kd, kn, rfl, hyk, hkB⟩
  · show ml (mT g) d (mb_10 g).2 (0, [(0, .ref x), (1, .int x1), (2, .int x2), (3, .int x3)], [], M) _
    have hS : st g Y M M := st.rf hW
    refine ml_st (S' := (1, [(0, .ref x), (1, .int x1), (2, .int x2), (3, .int x3)], [.ref x], M)) rfl rfl rfl ?_
    refine mo_get (S' := (4, [(0, .ref x), (1, .int x1), (2, .int x2), (3, .int x3)], [.null], M)) rfl hx rfl rfl ?_
    refine ml_st (S' := (37, [], [], M)) rfl rfl rfl ?_
    refine ml_st (S' := (38, [], [.int (-1)], M)) rfl rfl rfl ?_
    exact ml_ret rfl (rfl) (⟨⟨_, rfl⟩, rfl⟩)
  · show ml (mT g) d (mb_10 g).2 (0, [(0, .ref x), (1, .int x1), (2, .int x2), (3, .int x3)], [], M) _
    have hS : st g Y M M := st.rf hW
    have h1 := hS.1.lnk hyk (by decide)
    refine ml_st (S' := (1, [(0, .ref x), (1, .int x1), (2, .int x2), (3, .int x3)], [.ref x], M)) rfl rfl rfl ?_
    refine mo_get (S' := (4, [(0, .ref x), (1, .int x1), (2, .int x2), (3, .int x3)], [.ref kc], M)) rfl hx rfl rfl ?_
    refine ml_st (S' := (7, [(0, .ref x), (1, .int x1), (2, .int x2), (3, .int x3)], [], M)) rfl rfl rfl ?_
    refine ml_st (S' := (8, [(0, .ref x), (1, .int x1), (2, .int x2), (3, .int x3)], [.ref x], M)) rfl rfl rfl ?_
    refine mo_get (S' := (11, [(0, .ref x), (1, .int x1), (2, .int x2), (3, .int x3)], [.ref kc], M)) rfl hx rfl rfl ?_
    refine tg_vo rfl hS.1 hyk (by decide) rfl (fun b2 g4 h3 => ?_)
    obtain ⟨s5, h3⟩ := h3
    show ml _ _ _ (14, [(0, .ref x), (1, .int x1), (2, .int x2), (3, .int x3)], [.ref b2], M) _
    refine ml_st (S' := (15, [(0, .ref x), (1, .int x1), (2, .int x2), (3, .int x3)], [.int x2, .ref b2], M)) rfl rfl rfl ?_
    refine ml_call (a := [.ref b2, .int x2]) (rest := []) rfl (okc_t rfl rfl rfl hS.1 h3 (by decide)) rfl rfl (tq_tagOf hS.1 h3 (by omega)) (fun v6 M7 h8 => ?_)
    obtain ⟨⟨u9, rfl⟩, h8⟩ := h8
    rw [h8]
    show ml _ _ _ (18, [(0, .ref x), (1, .int x1), (2, .int x2), (3, .int x3)], [.int u9], M) _
    refine ml_st (S' := (19, [(0, .ref x), (1, .int x1), (2, .int x2), (3, .int x3)], [.int 1, .int u9], M)) rfl rfl rfl ?_
    refine ml_if2 (S1 := (37, [], [], M)) (S2 := (22, [(0, .ref x), (1, .int x1), (2, .int x2), (3, .int x3)], [], M)) rfl rfl rfl (fun c_19 => ?_) (fun c_19 => ?_)
    · have c_19 : ¬ u9 = 1 := of_decide_eq_true c_19
      refine ml_st (S' := (38, [], [.int (-1)], M)) rfl rfl rfl ?_
      exact ml_ret rfl (rfl) (⟨⟨_, rfl⟩, rfl⟩)
    · have c_19 : ¬ (¬ u9 = 1) := of_decide_eq_false c_19
      refine ml_st (S' := (23, [(0, .ref x), (1, .int x1), (2, .int x2), (3, .int x3)], [.ref x], M)) rfl rfl rfl ?_
      refine mo_get (S' := (26, [(0, .ref x), (1, .int x1), (2, .int x2), (3, .int x3)], [.ref kc], M)) rfl hx rfl rfl ?_
      refine ml_get (S' := (29, [(0, .ref x), (1, .int x1), (2, .int x2), (3, .int x3)], [.ref b2], M)) rfl g4 rfl ?_
      refine ml_st (S' := (30, [(0, .ref x), (1, .int x1), (2, .int x2), (3, .int x3)], [.int x3, .ref b2], M)) rfl rfl rfl ?_
      refine ml_call (a := [.ref b2, .int x3]) (rest := []) rfl (okc_t rfl rfl rfl hS.1 h3 (by decide)) rfl rfl (tq_tagOf hS.1 h3 (by omega)) (fun v10 M11 h12 => ?_)
      obtain ⟨⟨u13, rfl⟩, h12⟩ := h12
      rw [h12]
      show ml _ _ _ (33, [(0, .ref x), (1, .int x1), (2, .int x2), (3, .int x3)], [.int u13], M) _
      refine ml_st (S' := (34, [(0, .ref x), (1, .int x1), (2, .int x2), (3, .int x3)], [.int 1, .int u13], M)) rfl rfl rfl ?_
      refine ml_if2 (S1 := (39, [(0, .ref x), (1, .int x1), (2, .int x2), (3, .int x3)], [], M)) (S2 := (37, [], [], M)) rfl rfl rfl (fun c_34 => ?_) (fun c_34 => ?_)
      · have c_34 : u13 = 1 := of_decide_eq_true c_34
        refine ml_st (S' := (40, [(0, .ref x), (1, .int x1), (2, .int x2), (3, .int x3)], [.int x1], M)) rfl rfl rfl ?_
        refine ml_if (S1 := (53, [(0, .ref x), (1, .int x1), (2, .int x2), (3, .int x3)], [], M)) (S2 := (43, [(0, .ref x), (1, .int x1), (2, .int x2), (3, .int x3)], [], M)) rfl rfl rfl (fun c_40 => ?_) (fun c_40 => ?_)
        · have c_40 : x1 = 0 := of_decide_eq_true c_40
          refine ml_st (S' := (54, [(0, .ref x), (1, .int x1), (2, .int x2), (3, .int x3)], [.ref x], M)) rfl rfl rfl ?_
          refine mo_get (S' := (57, [(0, .ref x), (1, .int x1), (2, .int x2), (3, .int x3)], [.ref kc], M)) rfl hx rfl rfl ?_
          refine tg_vo rfl hS.1 hyk (by decide) rfl (fun b14 g16 h15 => ?_)
          obtain ⟨k17, h15⟩ := h15
          show ml _ _ _ (60, [(0, .ref x), (2, .int x2), (3, .int x3)], [.ref b14], M) _
          refine ml_st (S' := (62, [(4, .ref b14), (0, .ref x), (2, .int x2), (3, .int x3)], [], M)) rfl rfl rfl ?_
          refine ml_st (S' := (63, [(4, .ref b14), (0, .ref x), (2, .int x2), (3, .int x3)], [.ref x], M)) rfl rfl rfl ?_
          refine mo_get (S' := (66, [(4, .ref b14), (0, .ref x), (2, .int x2), (3, .int x3)], [.ref kc], M)) rfl hx rfl rfl ?_
          refine ml_get (S' := (69, [(4, .ref b14), (0, .ref x), (2, .int x2), (3, .int x3)], [.ref b2], M)) rfl g4 rfl ?_
          refine ml_blk 2 (S' := (73, [(4, .ref b14), (0, .ref x), (2, .int x2), (3, .int x3)], [.ref b14, .ref b14, .ref b2], M)) rfl ?_
          refine tl_mem (S' := (74, [(4, .ref b14), (0, .ref x), (2, .int x2), (3, .int x3)], [.int (nI k17), .ref b14, .ref b2], M)) rfl hS.1 h15 rfl ?_
          refine ml_blk 2 (S' := (76, [(4, .ref b14), (0, .ref x), (2, .int x2), (3, .int x3)], [.int x3, .int x2, .int (nI k17), .ref b14, .ref b2], M)) rfl ?_
          refine ml_call (a := [.ref b2, .ref b14, .int (nI k17), .int x2, .int x3]) (rest := []) rfl (okc_t rfl rfl rfl hS.1 h3 (by decide)) rfl rfl (tw_Po_sameMember hS.1 h3 h15 (by omega)) (fun v18 M19 h20 => ?_)
          obtain ⟨⟨u21, rfl⟩, h20⟩ := h20
          rw [h20]
          show ml _ _ _ (79, [(4, .ref b14), (0, .ref x), (2, .int x2), (3, .int x3)], [.int u21], M) _
          exact ml_ret rfl (rfl) (⟨⟨_, rfl⟩, rfl⟩)
        · have c_40 : ¬ (x1 = 0) := of_decide_eq_false c_40
          refine ml_st (S' := (44, [(0, .ref x), (1, .int x1), (2, .int x2), (3, .int x3)], [.ref x], M)) rfl rfl rfl ?_
          refine mo_get (S' := (47, [(0, .ref x), (1, .int x1), (2, .int x2), (3, .int x3)], [.ref kc], M)) rfl hx rfl rfl ?_
          refine tg_vo rfl hS.1 hyk (by decide) rfl (fun b22 g24 h23 => ?_)
          obtain ⟨k25, h23⟩ := h23
          show ml _ _ _ (50, [(0, .ref x), (1, .int x1), (2, .int x2), (3, .int x3)], [.ref b22], M) _
          refine ml_st (S' := (60, [(0, .ref x), (2, .int x2), (3, .int x3)], [.ref b22], M)) rfl rfl rfl ?_
          refine ml_st (S' := (62, [(4, .ref b22), (0, .ref x), (2, .int x2), (3, .int x3)], [], M)) rfl rfl rfl ?_
          refine ml_st (S' := (63, [(4, .ref b22), (0, .ref x), (2, .int x2), (3, .int x3)], [.ref x], M)) rfl rfl rfl ?_
          refine mo_get (S' := (66, [(4, .ref b22), (0, .ref x), (2, .int x2), (3, .int x3)], [.ref kc], M)) rfl hx rfl rfl ?_
          refine ml_get (S' := (69, [(4, .ref b22), (0, .ref x), (2, .int x2), (3, .int x3)], [.ref b2], M)) rfl g4 rfl ?_
          refine ml_blk 2 (S' := (73, [(4, .ref b22), (0, .ref x), (2, .int x2), (3, .int x3)], [.ref b22, .ref b22, .ref b2], M)) rfl ?_
          refine tl_mem (S' := (74, [(4, .ref b22), (0, .ref x), (2, .int x2), (3, .int x3)], [.int (nI k25), .ref b22, .ref b2], M)) rfl hS.1 h23 rfl ?_
          refine ml_blk 2 (S' := (76, [(4, .ref b22), (0, .ref x), (2, .int x2), (3, .int x3)], [.int x3, .int x2, .int (nI k25), .ref b22, .ref b2], M)) rfl ?_
          refine ml_call (a := [.ref b2, .ref b22, .int (nI k25), .int x2, .int x3]) (rest := []) rfl (okc_t rfl rfl rfl hS.1 h3 (by decide)) rfl rfl (tw_Po_sameMember hS.1 h3 h23 (by omega)) (fun v26 M27 h28 => ?_)
          obtain ⟨⟨u29, rfl⟩, h28⟩ := h28
          rw [h28]
          show ml _ _ _ (79, [(4, .ref b22), (0, .ref x), (2, .int x2), (3, .int x3)], [.int u29], M) _
          exact ml_ret rfl (rfl) (⟨⟨_, rfl⟩, rfl⟩)
      · have c_34 : ¬ (u13 = 1) := of_decide_eq_false c_34
        refine ml_st (S' := (38, [], [.int (-1)], M)) rfl rfl rfl ?_
        exact ml_ret rfl (rfl) (⟨⟨_, rfl⟩, rfl⟩)
set_option maxHeartbeats 2000000 in
theorem tq_row {g : xe_G} {M : mi_H} {Y : yT} {x cm fl B : Nat} {cc wp : Int32} {kv : Value} {x1 x2 x3 : Int32} (hW : WF g Y M) (hx : M.1 x = some (ob 11 [.ref cm, .int cc, .ref fl, kv, .int wp])) (hxn : Y.1 x = none) (hxl : x < M.2.1) (hkv : kvOk Y kv B) (hq0 : ¬ x3 < 0) (hq1 : x3 ≤ 3) {d : Nat} (hd : 9 ≤ d) : mt (mT g) d 19 [.ref x, .int x1, .int x2, .int x3] M (pI M) := by
  obtain ⟨d, rfl⟩ : ∃ e, d = e + 1 := ⟨d - 1, by omega⟩
  refine mt_in (b := mb_19 g) rfl rfl ?_
  rcases hkv with rfl | ⟨kc, kb, kd, kn, rfl, hyk, hkB⟩
  · show ml (mT g) d (mb_19 g).2 (0, [(0, .ref x), (1, .int x1), (2, .int x2), (3, .int x3)], [], M) _
    have hS : st g Y M M := st.rf hW
    refine ml_st (S' := (1, [(0, .ref x), (1, .int x1), (2, .int x2), (3, .int x3)], [.int x3], M)) rfl rfl rfl ?_
    refine ml_if (S1 := (9, [(0, .ref x), (1, .int x1), (2, .int x2), (3, .int x3)], [], M)) (S2 := (4, [(0, .ref x), (1, .int x1), (2, .int x2), (3, .int x3)], [], M)) rfl rfl rfl (fun c_1 => ?_) (fun c_1 => ?_)
    · exact absurd (of_decide_eq_true c_1) (hq0)
    refine ml_blk 2 (S' := (6, [(0, .ref x), (1, .int x1), (2, .int x2), (3, .int x3)], [.int 3, .int x3], M)) rfl ?_
    refine ml_if2 (S1 := (19, [(0, .ref x), (1, .int x1), (2, .int x2), (3, .int x3)], [], M)) (S2 := (9, [(0, .ref x), (1, .int x1), (2, .int x2), (3, .int x3)], [], M)) rfl rfl rfl (fun c_6 => ?_) (fun c_6 => ?_)
    rotate_left
    · exact absurd (hq1) (of_decide_eq_false c_6)
    refine ml_blk 2 (S' := (21, [(0, .ref x), (1, .int x1), (2, .int x2), (3, .int x3)], [.int x1, .ref x], M)) rfl ?_
    refine ml_call (a := [.ref x, .int x1]) (rest := []) rfl (okc_v rfl rfl rfl hx) rfl rfl (tq_codeOf (B := B) hW hx hxn hxl (Or.inl rfl) (by omega)) (fun v3 M4 h1 => ?_)
    obtain ⟨hv2, h1⟩ := h1
    rw [h1]
    have hv2 := hv2.resolve_right (fun h => h.1 rfl)
    subst hv2
    show ml _ _ _ (24, [(0, .ref x), (1, .int x1), (2, .int x2), (3, .int x3)], [.null], M) _
    refine ml_st (S' := (26, [(4, .null), (0, .ref x), (1, .int x1), (2, .int x2), (3, .int x3)], [], M)) rfl rfl rfl ?_
    refine ml_blk 2 (S' := (44, [], [], M)) rfl ?_
    refine ml_st (S' := (45, [], [.int (-1)], M)) rfl rfl rfl ?_
    exact ml_ret rfl (rfl) (⟨⟨_, rfl⟩, rfl⟩)
  · show ml (mT g) d (mb_19 g).2 (0, [(0, .ref x), (1, .int x1), (2, .int x2), (3, .int x3)], [], M) _
    have hS : st g Y M M := st.rf hW
    have h1 := hS.1.lnk hyk (by decide)
    refine ml_st (S' := (1, [(0, .ref x), (1, .int x1), (2, .int x2), (3, .int x3)], [.int x3], M)) rfl rfl rfl ?_
    refine ml_if (S1 := (9, [(0, .ref x), (1, .int x1), (2, .int x2), (3, .int x3)], [], M)) (S2 := (4, [(0, .ref x), (1, .int x1), (2, .int x2), (3, .int x3)], [], M)) rfl rfl rfl (fun c_1 => ?_) (fun c_1 => ?_)
    · exact absurd (of_decide_eq_true c_1) (hq0)
    refine ml_blk 2 (S' := (6, [(0, .ref x), (1, .int x1), (2, .int x2), (3, .int x3)], [.int 3, .int x3], M)) rfl ?_
    refine ml_if2 (S1 := (19, [(0, .ref x), (1, .int x1), (2, .int x2), (3, .int x3)], [], M)) (S2 := (9, [(0, .ref x), (1, .int x1), (2, .int x2), (3, .int x3)], [], M)) rfl rfl rfl (fun c_6 => ?_) (fun c_6 => ?_)
    rotate_left
    · exact absurd (hq1) (of_decide_eq_false c_6)
    refine ml_blk 2 (S' := (21, [(0, .ref x), (1, .int x1), (2, .int x2), (3, .int x3)], [.int x1, .ref x], M)) rfl ?_
    refine ml_call (a := [.ref x, .int x1]) (rest := []) rfl (okc_v rfl rfl rfl hx) rfl rfl (tq_codeOf (B := B) hW hx hxn hxl (Or.inr ⟨kc, kb, kd, kn, rfl, hyk, hkB⟩) (by omega)) (fun v4 M5 h2 => ?_)
    obtain ⟨hv3, h2⟩ := h2
    rw [h2]
    rcases hv3 with rfl | ⟨-, b6, p7, o8, k9, rfl, h10, hB11⟩
    · show ml _ _ _ (24, [(0, .ref x), (1, .int x1), (2, .int x2), (3, .int x3)], [.null], M) _
      refine ml_st (S' := (26, [(4, .null), (0, .ref x), (1, .int x1), (2, .int x2), (3, .int x3)], [], M)) rfl rfl rfl ?_
      refine ml_blk 2 (S' := (44, [], [], M)) rfl ?_
      refine ml_st (S' := (45, [], [.int (-1)], M)) rfl rfl rfl ?_
      exact ml_ret rfl (rfl) (⟨⟨_, rfl⟩, rfl⟩)
    · skip
      obtain ⟨⟨pp12, h13⟩, b14, h15⟩ := hS.1.lnk h10 (by decide)
      obtain ⟨da16, n17, h18⟩ := hS.1.lnk h15 (by decide)
      show ml _ _ _ (24, [(0, .ref x), (1, .int x1), (2, .int x2), (3, .int x3)], [.ref b6], M) _
      refine ml_st (S' := (26, [(4, .ref b6), (0, .ref x), (1, .int x1), (2, .int x2), (3, .int x3)], [], M)) rfl rfl rfl ?_
      refine ml_blk 2 (S' := (31, [(4, .ref b6), (0, .ref x), (1, .int x1), (2, .int x2), (3, .int x3)], [], M)) rfl ?_
      refine ml_st (S' := (32, [(4, .ref b6), (0, .ref x), (1, .int x1), (2, .int x2), (3, .int x3)], [.int x2], M)) rfl rfl rfl ?_
      refine ml_if (S1 := (44, [], [], M)) (S2 := (35, [(4, .ref b6), (0, .ref x), (1, .int x1), (2, .int x2), (3, .int x3)], [], M)) rfl rfl rfl (fun c_32 => ?_) (fun c_32 => ?_)
      · have c_32 : x2 < 0 := of_decide_eq_true c_32
        refine ml_st (S' := (45, [], [.int (-1)], M)) rfl rfl rfl ?_
        exact ml_ret rfl (rfl) (⟨⟨_, rfl⟩, rfl⟩)
      · have c_32 : ¬ (x2 < 0) := of_decide_eq_false c_32
        refine ml_blk 2 (S' := (38, [(4, .ref b6), (0, .ref x), (1, .int x1), (2, .int x2), (3, .int x3)], [.ref b6, .int x2], M)) rfl ?_
        refine tg_int rfl hS.1 h10 (by decide) rfl (fun u19 g20 => ?_)
        show ml _ _ _ (41, [(4, .ref b6), (0, .ref x), (1, .int x1), (2, .int x2), (3, .int x3)], [.int u19, .int x2], M) _
        refine ml_if2 (S1 := (46, [(4, .ref b6), (0, .ref x), (1, .int x1), (2, .int x2), (3, .int x3)], [], M)) (S2 := (44, [], [], M)) rfl rfl rfl (fun c_41 => ?_) (fun c_41 => ?_)
        · have c_41 : x2 < u19 := of_decide_eq_true c_41
          refine ml_st (S' := (47, [(4, .ref b6), (0, .ref x), (1, .int x1), (2, .int x2), (3, .int x3)], [.ref x], M)) rfl rfl rfl ?_
          refine mo_get (S' := (50, [(4, .ref b6), (0, .ref x), (1, .int x1), (2, .int x2), (3, .int x3)], [.ref kc], M)) rfl hx rfl rfl ?_
          refine tg_ref (S' := (53, [(4, .ref b6), (0, .ref x), (1, .int x1), (2, .int x2), (3, .int x3)], [.ref kb], M)) rfl hS.1 hyk (by decide) rfl rfl ?_
          refine ml_st (S' := (55, [(4, .ref b6), (0, .ref x), (1, .int x1), (2, .int x2), (3, .int x3)], [.ref b6, .ref kb], M)) rfl rfl rfl ?_
          refine tg_int rfl hS.1 h10 (by decide) rfl (fun u21 g22 => ?_)
          show ml _ _ _ (58, [(4, .ref b6), (0, .ref x), (1, .int x1), (2, .int x2), (3, .int x3)], [.int u21, .ref kb], M) _
          refine ml_blk 3 (S' := (62, [(4, .ref b6), (0, .ref x), (1, .int x1), (2, .int x2), (3, .int x3)], [.int (8 * x2), .int u21, .ref kb], M)) rfl ?_
          refine ml_blk 3 (S' := (65, [(4, .ref b6), (0, .ref x), (1, .int x1), (2, .int x2), (3, .int x3)], [.int x3, .int 2, .int (u21 + (8 * x2)), .ref kb], M)) rfl ?_
          refine ml_blk 2 (S' := (67, [(4, .ref b6), (0, .ref x), (1, .int x1), (2, .int x2), (3, .int x3)], [.int ((u21 + (8 * x2)) + (2 * x3)), .ref kb], M)) rfl ?_
          refine ml_call (a := [.ref kb, .int ((u21 + (8 * x2)) + (2 * x3))]) (rest := []) rfl (okc_t rfl rfl rfl hS.1 h1 (by decide)) rfl rfl (tq_u2 hS.1 h1 (by omega)) (fun v23 M24 h25 => ?_)
          obtain ⟨⟨u26, rfl⟩, h25⟩ := h25
          rw [h25]
          show ml _ _ _ (70, [(4, .ref b6), (0, .ref x), (1, .int x1), (2, .int x2), (3, .int x3)], [.int u26], M) _
          exact ml_ret rfl (rfl) (⟨⟨_, rfl⟩, rfl⟩)
        · have c_41 : ¬ (x2 < u19) := of_decide_eq_false c_41
          refine ml_st (S' := (45, [], [.int (-1)], M)) rfl rfl rfl ?_
          exact ml_ret rfl (rfl) (⟨⟨_, rfl⟩, rfl⟩)
set_option maxHeartbeats 2000000 in
theorem tq_bootstrap {g : xe_G} {M : mi_H} {Y : yT} {x cm fl B : Nat} {cc wp : Int32} {kv : Value} {x1 x2 : Int32} (hW : WF g Y M) (hx : M.1 x = some (ob 11 [.ref cm, .int cc, .ref fl, kv, .int wp])) (hxn : Y.1 x = none) (hxl : x < M.2.1) (hkv : kvOk Y kv B) {d : Nat} (hd : 9 ≤ d) : mt (mT g) d 2 [.ref x, .int x1, .int x2] M (pI M) := by
  obtain ⟨d, rfl⟩ : ∃ e, d = e + 1 := ⟨d - 1, by omega⟩
  refine mt_in (b := mb_2 g) rfl rfl ?_
  rcases hkv with rfl | ⟨kc, kb, kd, kn, rfl, hyk, hkB⟩
  · show ml (mT g) d (mb_2 g).2 (0, [(0, .ref x), (1, .int x1), (2, .int x2)], [], M) _
    have hS : st g Y M M := st.rf hW
    refine ml_st (S' := (1, [(0, .ref x), (1, .int x1), (2, .int x2)], [.ref x], M)) rfl rfl rfl ?_
    refine mo_get (S' := (4, [(0, .ref x), (1, .int x1), (2, .int x2)], [.null], M)) rfl hx rfl rfl ?_
    refine ml_st (S' := (7, [(0, .ref x), (1, .int x1), (2, .int x2)], [], M)) rfl rfl rfl ?_
    refine ml_st (S' := (8, [(0, .ref x), (1, .int x1), (2, .int x2)], [.int (-1)], M)) rfl rfl rfl ?_
    refine ml_st (S' := (20, [], [.int (-1)], M)) rfl rfl rfl ?_
    exact ml_ret rfl (rfl) (⟨⟨_, rfl⟩, rfl⟩)
  · show ml (mT g) d (mb_2 g).2 (0, [(0, .ref x), (1, .int x1), (2, .int x2)], [], M) _
    have hS : st g Y M M := st.rf hW
    have h1 := hS.1.lnk hyk (by decide)
    refine ml_st (S' := (1, [(0, .ref x), (1, .int x1), (2, .int x2)], [.ref x], M)) rfl rfl rfl ?_
    refine mo_get (S' := (4, [(0, .ref x), (1, .int x1), (2, .int x2)], [.ref kc], M)) rfl hx rfl rfl ?_
    refine ml_st (S' := (11, [(0, .ref x), (1, .int x1), (2, .int x2)], [], M)) rfl rfl rfl ?_
    refine ml_st (S' := (12, [(0, .ref x), (1, .int x1), (2, .int x2)], [.ref x], M)) rfl rfl rfl ?_
    refine mo_get (S' := (15, [(0, .ref x), (1, .int x1), (2, .int x2)], [.ref kc], M)) rfl hx rfl rfl ?_
    refine ml_blk 2 (S' := (17, [(0, .ref x), (1, .int x1), (2, .int x2)], [.int x2, .int x1, .ref kc], M)) rfl ?_
    refine ml_call (a := [.ref kc, .int x1, .int x2]) (rest := []) rfl (okc_t rfl rfl rfl hS.1 hyk (by decide)) rfl rfl (tw_Cl_bootstrapPart hS.1 hyk h1 (by omega)) (fun v2 M3 h4 => ?_)
    obtain ⟨⟨u5, rfl⟩, h4⟩ := h4
    rw [h4]
    show ml _ _ _ (20, [], [.int u5], M) _
    exact ml_ret rfl (rfl) (⟨⟨_, rfl⟩, rfl⟩)
set_option maxHeartbeats 2000000 in
theorem tq_cut {g : xe_G} {M : mi_H} {Y : yT} {x cm fl B : Nat} {cc wp : Int32} {kv : Value} {x1 : Int32} (hW : WF g Y M) (hx : M.1 x = some (ob 11 [.ref cm, .int cc, .ref fl, kv, .int wp])) (hxn : Y.1 x = none) (hxl : x < M.2.1) (hkv : kvOk Y kv B) {d : Nat} (hd : 9 ≤ d) : mt (mT g) d 6 [.ref x, .int x1] M (fun v M' => ∃ Y', (∃ y : Int32, v = some (.int y)) ∧ sa g Y M Y' M' 2 (2 * B)) := by
  obtain ⟨d, rfl⟩ : ∃ e, d = e + 1 := ⟨d - 1, by omega⟩
  refine mt_in (b := mb_6 g) rfl rfl ?_
  rcases hkv with rfl | ⟨kc, kb, kd, kn, rfl, hyk, hkB⟩
  · show ml (mT g) d (mb_6 g).2 (0, [(0, .ref x), (1, .int x1)], [], M) _
    have hS : st g Y M M := st.rf hW
    have hA := sa.rf hW
    refine ml_blk 2 (S' := (2, [(0, .ref x), (1, .int x1)], [.int x1, .ref x], M)) rfl ?_
    refine ml_call (a := [.ref x, .int x1]) (rest := []) rfl (okc_v rfl rfl rfl hx) rfl rfl (tq_codeOf (B := B) hW hx hxn hxl (Or.inl rfl) (by omega)) (fun v3 M4 h1 => ?_)
    obtain ⟨hv2, h1⟩ := h1
    rw [h1]
    have hv2 := hv2.resolve_right (fun h => h.1 rfl)
    subst hv2
    show ml _ _ _ (5, [(0, .ref x), (1, .int x1)], [.null], M) _
    refine ml_st (S' := (6, [(2, .null), (0, .ref x), (1, .int x1)], [], M)) rfl rfl rfl ?_
    refine ml_blk 2 (S' := (10, [(2, .null), (0, .ref x), (1, .int x1)], [], M)) rfl ?_
    refine ml_st (S' := (11, [(2, .null), (0, .ref x), (1, .int x1)], [.int (-1)], M)) rfl rfl rfl ?_
    refine ml_st (S' := (18, [], [.int (-1)], M)) rfl rfl rfl ?_
    exact ml_ret rfl (rfl) (⟨Y, ⟨_, rfl⟩, (hA.st hS).le (by omega) (by omega)⟩)
  · show ml (mT g) d (mb_6 g).2 (0, [(0, .ref x), (1, .int x1)], [], M) _
    have hS : st g Y M M := st.rf hW
    have hA := sa.rf hW
    have h1 := hS.1.lnk hyk (by decide)
    refine ml_blk 2 (S' := (2, [(0, .ref x), (1, .int x1)], [.int x1, .ref x], M)) rfl ?_
    refine ml_call (a := [.ref x, .int x1]) (rest := []) rfl (okc_v rfl rfl rfl hx) rfl rfl (tq_codeOf (B := B) hW hx hxn hxl (Or.inr ⟨kc, kb, kd, kn, rfl, hyk, hkB⟩) (by omega)) (fun v4 M5 h2 => ?_)
    obtain ⟨hv3, h2⟩ := h2
    rw [h2]
    rcases hv3 with rfl | ⟨-, b6, p7, o8, k9, rfl, h10, hB11⟩
    · show ml _ _ _ (5, [(0, .ref x), (1, .int x1)], [.null], M) _
      refine ml_st (S' := (6, [(2, .null), (0, .ref x), (1, .int x1)], [], M)) rfl rfl rfl ?_
      refine ml_blk 2 (S' := (10, [(2, .null), (0, .ref x), (1, .int x1)], [], M)) rfl ?_
      refine ml_st (S' := (11, [(2, .null), (0, .ref x), (1, .int x1)], [.int (-1)], M)) rfl rfl rfl ?_
      refine ml_st (S' := (18, [], [.int (-1)], M)) rfl rfl rfl ?_
      exact ml_ret rfl (rfl) (⟨Y, ⟨_, rfl⟩, (hA.st hS).le (by omega) (by omega)⟩)
    · skip
      obtain ⟨⟨pp12, h13⟩, b14, h15⟩ := hS.1.lnk h10 (by decide)
      obtain ⟨da16, n17, h18⟩ := hS.1.lnk h15 (by decide)
      show ml _ _ _ (5, [(0, .ref x), (1, .int x1)], [.ref b6], M) _
      refine ml_st (S' := (6, [(2, .ref b6), (0, .ref x), (1, .int x1)], [], M)) rfl rfl rfl ?_
      refine ml_blk 2 (S' := (14, [(2, .ref b6), (0, .ref x), (1, .int x1)], [], M)) rfl ?_
      refine ml_st (S' := (15, [(2, .ref b6), (0, .ref x), (1, .int x1)], [.ref b6], M)) rfl rfl rfl ?_
      refine ml_call (a := [.ref b6]) (rest := []) rfl (okc_t rfl rfl rfl hS.1 h10 (by decide)) rfl rfl (tw_Co_cutUp hS.1 h10 h13 h15 h18 (by omega)) (fun v19 M20 h21 => ?_)
      obtain ⟨Y23, ⟨u22, rfl⟩, hv24⟩ := h21
      have hA25 := (hA.st hS).tr hv24
      have hS26 := st.rf hA25.1
      have h27 := (hv24.2.1 _ _ hyk).1
      have h28 := (hv24.2.1 _ _ h1).1
      have h29 := (hv24.2.1 _ _ h10).1
      have h30 := (hv24.2.1 _ _ h13).1
      have h31 := (hv24.2.1 _ _ h15).1
      have h32 := (hv24.2.1 _ _ h18).1
      show ml _ _ _ (18, [], [.int u22], M20) _
      exact ml_ret rfl (rfl) (⟨Y23, ⟨_, rfl⟩, (hA25.st hS26).le (by omega) (by omega)⟩)
set_option maxHeartbeats 2000000 in
theorem tq_instruction {g : xe_G} {M : mi_H} {Y : yT} {x cm fl B : Nat} {cc wp : Int32} {kv : Value} {x1 x2 x3 : Int32} (hW : WF g Y M) (hx : M.1 x = some (ob 11 [.ref cm, .int cc, .ref fl, kv, .int wp])) (hxn : Y.1 x = none) (hxl : x < M.2.1) (hkv : kvOk Y kv B) (hq0 : ¬ x3 < 0) (hq1 : x3 ≤ 4) {d : Nat} (hd : 9 ≤ d) : mt (mT g) d 12 [.ref x, .int x1, .int x2, .int x3] M (fun v M' => ∃ Y', (∃ y : Int32, v = some (.int y)) ∧ sa g Y M Y' M' 2 (2 * B)) := by
  obtain ⟨d, rfl⟩ : ∃ e, d = e + 1 := ⟨d - 1, by omega⟩
  refine mt_in (b := mb_12 g) rfl rfl ?_
  rcases hkv with rfl | ⟨kc, kb, kd, kn, rfl, hyk, hkB⟩
  · show ml (mT g) d (mb_12 g).2 (0, [(0, .ref x), (1, .int x1), (2, .int x2), (3, .int x3)], [], M) _
    have hS : st g Y M M := st.rf hW
    have hA := sa.rf hW
    refine ml_st (S' := (1, [(0, .ref x), (1, .int x1), (2, .int x2), (3, .int x3)], [.int x3], M)) rfl rfl rfl ?_
    refine ml_if (S1 := (9, [(0, .ref x), (1, .int x1), (2, .int x2), (3, .int x3)], [], M)) (S2 := (4, [(0, .ref x), (1, .int x1), (2, .int x2), (3, .int x3)], [], M)) rfl rfl rfl (fun c_1 => ?_) (fun c_1 => ?_)
    · exact absurd (of_decide_eq_true c_1) (hq0)
    refine ml_blk 2 (S' := (6, [(0, .ref x), (1, .int x1), (2, .int x2), (3, .int x3)], [.int 4, .int x3], M)) rfl ?_
    refine ml_if2 (S1 := (19, [(0, .ref x), (1, .int x1), (2, .int x2), (3, .int x3)], [], M)) (S2 := (9, [(0, .ref x), (1, .int x1), (2, .int x2), (3, .int x3)], [], M)) rfl rfl rfl (fun c_6 => ?_) (fun c_6 => ?_)
    rotate_left
    · exact absurd (hq1) (of_decide_eq_false c_6)
    refine ml_blk 2 (S' := (21, [(0, .ref x), (1, .int x1), (2, .int x2), (3, .int x3)], [.int x1, .ref x], M)) rfl ?_
    refine ml_call (a := [.ref x, .int x1]) (rest := []) rfl (okc_v rfl rfl rfl hx) rfl rfl (tq_codeOf (B := B) hW hx hxn hxl (Or.inl rfl) (by omega)) (fun v3 M4 h1 => ?_)
    obtain ⟨hv2, h1⟩ := h1
    rw [h1]
    have hv2 := hv2.resolve_right (fun h => h.1 rfl)
    subst hv2
    show ml _ _ _ (24, [(0, .ref x), (1, .int x1), (2, .int x2), (3, .int x3)], [.null], M) _
    refine ml_st (S' := (26, [(4, .null), (0, .ref x), (1, .int x1), (2, .int x2), (3, .int x3)], [], M)) rfl rfl rfl ?_
    refine ml_blk 2 (S' := (44, [], [], M)) rfl ?_
    refine ml_st (S' := (45, [], [.int (-1)], M)) rfl rfl rfl ?_
    refine ml_st (S' := (55, [], [.int (-1)], M)) rfl rfl rfl ?_
    exact ml_ret rfl (rfl) (⟨Y, ⟨_, rfl⟩, (hA.st hS).le (by omega) (by omega)⟩)
  · show ml (mT g) d (mb_12 g).2 (0, [(0, .ref x), (1, .int x1), (2, .int x2), (3, .int x3)], [], M) _
    have hS : st g Y M M := st.rf hW
    have hA := sa.rf hW
    have h1 := hS.1.lnk hyk (by decide)
    refine ml_st (S' := (1, [(0, .ref x), (1, .int x1), (2, .int x2), (3, .int x3)], [.int x3], M)) rfl rfl rfl ?_
    refine ml_if (S1 := (9, [(0, .ref x), (1, .int x1), (2, .int x2), (3, .int x3)], [], M)) (S2 := (4, [(0, .ref x), (1, .int x1), (2, .int x2), (3, .int x3)], [], M)) rfl rfl rfl (fun c_1 => ?_) (fun c_1 => ?_)
    · exact absurd (of_decide_eq_true c_1) (hq0)
    refine ml_blk 2 (S' := (6, [(0, .ref x), (1, .int x1), (2, .int x2), (3, .int x3)], [.int 4, .int x3], M)) rfl ?_
    refine ml_if2 (S1 := (19, [(0, .ref x), (1, .int x1), (2, .int x2), (3, .int x3)], [], M)) (S2 := (9, [(0, .ref x), (1, .int x1), (2, .int x2), (3, .int x3)], [], M)) rfl rfl rfl (fun c_6 => ?_) (fun c_6 => ?_)
    rotate_left
    · exact absurd (hq1) (of_decide_eq_false c_6)
    refine ml_blk 2 (S' := (21, [(0, .ref x), (1, .int x1), (2, .int x2), (3, .int x3)], [.int x1, .ref x], M)) rfl ?_
    refine ml_call (a := [.ref x, .int x1]) (rest := []) rfl (okc_v rfl rfl rfl hx) rfl rfl (tq_codeOf (B := B) hW hx hxn hxl (Or.inr ⟨kc, kb, kd, kn, rfl, hyk, hkB⟩) (by omega)) (fun v4 M5 h2 => ?_)
    obtain ⟨hv3, h2⟩ := h2
    rw [h2]
    rcases hv3 with rfl | ⟨-, b6, p7, o8, k9, rfl, h10, hB11⟩
    · show ml _ _ _ (24, [(0, .ref x), (1, .int x1), (2, .int x2), (3, .int x3)], [.null], M) _
      refine ml_st (S' := (26, [(4, .null), (0, .ref x), (1, .int x1), (2, .int x2), (3, .int x3)], [], M)) rfl rfl rfl ?_
      refine ml_blk 2 (S' := (44, [], [], M)) rfl ?_
      refine ml_st (S' := (45, [], [.int (-1)], M)) rfl rfl rfl ?_
      refine ml_st (S' := (55, [], [.int (-1)], M)) rfl rfl rfl ?_
      exact ml_ret rfl (rfl) (⟨Y, ⟨_, rfl⟩, (hA.st hS).le (by omega) (by omega)⟩)
    · skip
      obtain ⟨⟨pp12, h13⟩, b14, h15⟩ := hS.1.lnk h10 (by decide)
      obtain ⟨da16, n17, h18⟩ := hS.1.lnk h15 (by decide)
      show ml _ _ _ (24, [(0, .ref x), (1, .int x1), (2, .int x2), (3, .int x3)], [.ref b6], M) _
      refine ml_st (S' := (26, [(4, .ref b6), (0, .ref x), (1, .int x1), (2, .int x2), (3, .int x3)], [], M)) rfl rfl rfl ?_
      refine ml_blk 2 (S' := (31, [(4, .ref b6), (0, .ref x), (1, .int x1), (2, .int x2), (3, .int x3)], [], M)) rfl ?_
      refine ml_st (S' := (32, [(4, .ref b6), (0, .ref x), (1, .int x1), (2, .int x2), (3, .int x3)], [.int x2], M)) rfl rfl rfl ?_
      refine ml_if (S1 := (44, [], [], M)) (S2 := (35, [(4, .ref b6), (0, .ref x), (1, .int x1), (2, .int x2), (3, .int x3)], [], M)) rfl rfl rfl (fun c_32 => ?_) (fun c_32 => ?_)
      · have c_32 : x2 < 0 := of_decide_eq_true c_32
        refine ml_st (S' := (45, [], [.int (-1)], M)) rfl rfl rfl ?_
        refine ml_st (S' := (55, [], [.int (-1)], M)) rfl rfl rfl ?_
        exact ml_ret rfl (rfl) (⟨Y, ⟨_, rfl⟩, (hA.st hS).le (by omega) (by omega)⟩)
      · have c_32 : ¬ (x2 < 0) := of_decide_eq_false c_32
        refine ml_blk 2 (S' := (38, [(4, .ref b6), (0, .ref x), (1, .int x1), (2, .int x2), (3, .int x3)], [.ref b6, .int x2], M)) rfl ?_
        refine ml_call (a := [.ref b6]) (rest := [.int x2]) rfl (okc_t rfl rfl rfl hS.1 h10 (by decide)) rfl rfl (tw_Co_cutUp hS.1 h10 h13 h15 h18 (by omega)) (fun v19 M20 h21 => ?_)
        obtain ⟨Y23, ⟨u22, rfl⟩, hv24⟩ := h21
        have hA25 := (hA.st hS).tr hv24
        have hS26 := st.rf hA25.1
        have h27 := (hv24.2.1 _ _ hyk).1
        have h28 := (hv24.2.1 _ _ h1).1
        have h29 := (hv24.2.1 _ _ h10).1
        have h30 := (hv24.2.1 _ _ h13).1
        have h31 := (hv24.2.1 _ _ h15).1
        have h32 := (hv24.2.1 _ _ h18).1
        show ml _ _ _ (41, [(4, .ref b6), (0, .ref x), (1, .int x1), (2, .int x2), (3, .int x3)], [.int u22, .int x2], M20) _
        refine ml_if2 (S1 := (48, [(4, .ref b6), (0, .ref x), (1, .int x1), (2, .int x2), (3, .int x3)], [], M20)) (S2 := (44, [], [], M20)) rfl rfl rfl (fun c_41 => ?_) (fun c_41 => ?_)
        · have c_41 : x2 < u22 := of_decide_eq_true c_41
          refine ml_blk 3 (S' := (52, [(4, .ref b6), (0, .ref x), (1, .int x1), (2, .int x2), (3, .int x3)], [.int x3, .int x2, .ref b6], M20)) rfl ?_
          refine ml_call (a := [.ref b6, .int x2, .int x3]) (rest := []) rfl (okc_t rfl rfl rfl hS26.1 h29 (by decide)) rfl rfl (tw_Co_number hS26.1 h29 h30 h31 h32 (by omega)) (fun v33 M34 h35 => ?_)
          obtain ⟨⟨u36, rfl⟩, h35⟩ := h35
          have hS37 := hS26.tr h35
          show ml _ _ _ (55, [], [.int u36], M34) _
          exact ml_ret rfl (rfl) (⟨Y23, ⟨_, rfl⟩, (hA25.st hS37).le (by omega) (by omega)⟩)
        · have c_41 : ¬ (x2 < u22) := of_decide_eq_false c_41
          refine ml_st (S' := (45, [], [.int (-1)], M20)) rfl rfl rfl ?_
          refine ml_st (S' := (55, [], [.int (-1)], M20)) rfl rfl rfl ?_
          exact ml_ret rfl (rfl) (⟨Y23, ⟨_, rfl⟩, (hA25.st hS26).le (by omega) (by omega)⟩)
set_option maxHeartbeats 2000000 in
theorem tq_jump {g : xe_G} {M : mi_H} {Y : yT} {x cm fl B : Nat} {cc wp : Int32} {kv : Value} {x1 x2 x3 x4 : Int32} (hW : WF g Y M) (hx : M.1 x = some (ob 11 [.ref cm, .int cc, .ref fl, kv, .int wp])) (hxn : Y.1 x = none) (hxl : x < M.2.1) (hkv : kvOk Y kv B) {d : Nat} (hd : 9 ≤ d) : mt (mT g) d 14 [.ref x, .int x1, .int x2, .int x3, .int x4] M (fun v M' => ∃ Y', (∃ y : Int32, v = some (.int y)) ∧ sa g Y M Y' M' 2 (2 * B)) := by
  obtain ⟨d, rfl⟩ : ∃ e, d = e + 1 := ⟨d - 1, by omega⟩
  refine mt_in (b := mb_14 g) rfl rfl ?_
  rcases hkv with rfl | ⟨kc, kb, kd, kn, rfl, hyk, hkB⟩
  · show ml (mT g) d (mb_14 g).2 (0, [(0, .ref x), (1, .int x1), (2, .int x2), (3, .int x3), (4, .int x4)], [], M) _
    have hS : st g Y M M := st.rf hW
    have hA := sa.rf hW
    refine ml_blk 2 (S' := (2, [(0, .ref x), (1, .int x1), (2, .int x2), (3, .int x3), (4, .int x4)], [.int x1, .ref x], M)) rfl ?_
    refine ml_call (a := [.ref x, .int x1]) (rest := []) rfl (okc_v rfl rfl rfl hx) rfl rfl (tq_codeOf (B := B) hW hx hxn hxl (Or.inl rfl) (by omega)) (fun v3 M4 h1 => ?_)
    obtain ⟨hv2, h1⟩ := h1
    rw [h1]
    have hv2 := hv2.resolve_right (fun h => h.1 rfl)
    subst hv2
    show ml _ _ _ (5, [(0, .ref x), (1, .int x1), (2, .int x2), (3, .int x3), (4, .int x4)], [.null], M) _
    refine ml_st (S' := (7, [(5, .null), (0, .ref x), (1, .int x1), (2, .int x2), (3, .int x3), (4, .int x4)], [], M)) rfl rfl rfl ?_
    refine ml_blk 2 (S' := (25, [], [], M)) rfl ?_
    refine ml_st (S' := (26, [], [.int (-1)], M)) rfl rfl rfl ?_
    refine ml_st (S' := (38, [], [.int (-1)], M)) rfl rfl rfl ?_
    exact ml_ret rfl (rfl) (⟨Y, ⟨_, rfl⟩, (hA.st hS).le (by omega) (by omega)⟩)
  · show ml (mT g) d (mb_14 g).2 (0, [(0, .ref x), (1, .int x1), (2, .int x2), (3, .int x3), (4, .int x4)], [], M) _
    have hS : st g Y M M := st.rf hW
    have hA := sa.rf hW
    have h1 := hS.1.lnk hyk (by decide)
    refine ml_blk 2 (S' := (2, [(0, .ref x), (1, .int x1), (2, .int x2), (3, .int x3), (4, .int x4)], [.int x1, .ref x], M)) rfl ?_
    refine ml_call (a := [.ref x, .int x1]) (rest := []) rfl (okc_v rfl rfl rfl hx) rfl rfl (tq_codeOf (B := B) hW hx hxn hxl (Or.inr ⟨kc, kb, kd, kn, rfl, hyk, hkB⟩) (by omega)) (fun v4 M5 h2 => ?_)
    obtain ⟨hv3, h2⟩ := h2
    rw [h2]
    rcases hv3 with rfl | ⟨-, b6, p7, o8, k9, rfl, h10, hB11⟩
    · show ml _ _ _ (5, [(0, .ref x), (1, .int x1), (2, .int x2), (3, .int x3), (4, .int x4)], [.null], M) _
      refine ml_st (S' := (7, [(5, .null), (0, .ref x), (1, .int x1), (2, .int x2), (3, .int x3), (4, .int x4)], [], M)) rfl rfl rfl ?_
      refine ml_blk 2 (S' := (25, [], [], M)) rfl ?_
      refine ml_st (S' := (26, [], [.int (-1)], M)) rfl rfl rfl ?_
      refine ml_st (S' := (38, [], [.int (-1)], M)) rfl rfl rfl ?_
      exact ml_ret rfl (rfl) (⟨Y, ⟨_, rfl⟩, (hA.st hS).le (by omega) (by omega)⟩)
    · skip
      obtain ⟨⟨pp12, h13⟩, b14, h15⟩ := hS.1.lnk h10 (by decide)
      obtain ⟨da16, n17, h18⟩ := hS.1.lnk h15 (by decide)
      show ml _ _ _ (5, [(0, .ref x), (1, .int x1), (2, .int x2), (3, .int x3), (4, .int x4)], [.ref b6], M) _
      refine ml_st (S' := (7, [(5, .ref b6), (0, .ref x), (1, .int x1), (2, .int x2), (3, .int x3), (4, .int x4)], [], M)) rfl rfl rfl ?_
      refine ml_blk 2 (S' := (12, [(5, .ref b6), (0, .ref x), (1, .int x1), (2, .int x2), (3, .int x3), (4, .int x4)], [], M)) rfl ?_
      refine ml_st (S' := (13, [(5, .ref b6), (0, .ref x), (1, .int x1), (2, .int x2), (3, .int x3), (4, .int x4)], [.int x2], M)) rfl rfl rfl ?_
      refine ml_if (S1 := (25, [], [], M)) (S2 := (16, [(5, .ref b6), (0, .ref x), (1, .int x1), (2, .int x2), (3, .int x3), (4, .int x4)], [], M)) rfl rfl rfl (fun c_13 => ?_) (fun c_13 => ?_)
      · have c_13 : x2 < 0 := of_decide_eq_true c_13
        refine ml_st (S' := (26, [], [.int (-1)], M)) rfl rfl rfl ?_
        refine ml_st (S' := (38, [], [.int (-1)], M)) rfl rfl rfl ?_
        exact ml_ret rfl (rfl) (⟨Y, ⟨_, rfl⟩, (hA.st hS).le (by omega) (by omega)⟩)
      · have c_13 : ¬ (x2 < 0) := of_decide_eq_false c_13
        refine ml_blk 2 (S' := (19, [(5, .ref b6), (0, .ref x), (1, .int x1), (2, .int x2), (3, .int x3), (4, .int x4)], [.ref b6, .int x2], M)) rfl ?_
        refine ml_call (a := [.ref b6]) (rest := [.int x2]) rfl (okc_t rfl rfl rfl hS.1 h10 (by decide)) rfl rfl (tw_Co_cutUp hS.1 h10 h13 h15 h18 (by omega)) (fun v19 M20 h21 => ?_)
        obtain ⟨Y23, ⟨u22, rfl⟩, hv24⟩ := h21
        have hA25 := (hA.st hS).tr hv24
        have hS26 := st.rf hA25.1
        have h27 := (hv24.2.1 _ _ hyk).1
        have h28 := (hv24.2.1 _ _ h1).1
        have h29 := (hv24.2.1 _ _ h10).1
        have h30 := (hv24.2.1 _ _ h13).1
        have h31 := (hv24.2.1 _ _ h15).1
        have h32 := (hv24.2.1 _ _ h18).1
        show ml _ _ _ (22, [(5, .ref b6), (0, .ref x), (1, .int x1), (2, .int x2), (3, .int x3), (4, .int x4)], [.int u22, .int x2], M20) _
        refine ml_if2 (S1 := (29, [(5, .ref b6), (0, .ref x), (1, .int x1), (2, .int x2), (3, .int x3), (4, .int x4)], [], M20)) (S2 := (25, [], [], M20)) rfl rfl rfl (fun c_22 => ?_) (fun c_22 => ?_)
        · have c_22 : x2 < u22 := of_decide_eq_true c_22
          refine ml_blk 3 (S' := (33, [(5, .ref b6), (0, .ref x), (1, .int x1), (2, .int x2), (3, .int x3), (4, .int x4)], [.int x3, .int x2, .ref b6], M20)) rfl ?_
          refine ml_st (S' := (35, [(5, .ref b6), (0, .ref x), (1, .int x1), (2, .int x2), (3, .int x3), (4, .int x4)], [.int x4, .int x3, .int x2, .ref b6], M20)) rfl rfl rfl ?_
          refine ml_call (a := [.ref b6, .int x2, .int x3, .int x4]) (rest := []) rfl (okc_t rfl rfl rfl hS26.1 h29 (by decide)) rfl rfl (tw_Co_switchPlace hS26.1 h29 h30 h31 h32 (by omega)) (fun v33 M34 h35 => ?_)
          obtain ⟨⟨u36, rfl⟩, h35⟩ := h35
          have hS37 := hS26.tr h35
          show ml _ _ _ (38, [], [.int u36], M34) _
          exact ml_ret rfl (rfl) (⟨Y23, ⟨_, rfl⟩, (hA25.st hS37).le (by omega) (by omega)⟩)
        · have c_22 : ¬ (x2 < u22) := of_decide_eq_false c_22
          refine ml_st (S' := (26, [], [.int (-1)], M20)) rfl rfl rfl ?_
          refine ml_st (S' := (38, [], [.int (-1)], M20)) rfl rfl rfl ?_
          exact ml_ret rfl (rfl) (⟨Y23, ⟨_, rfl⟩, (hA25.st hS26).le (by omega) (by omega)⟩)
