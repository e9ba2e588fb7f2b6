set_option maxHeartbeats 2000000 in
theorem tw_Cl_methodHolds {g : xe_G} {M : mi_H} {Y : yT} {a c b p vd ac da n me : Nat} {pp : List Nat} {x2 : Int32}  (hW : WF g Y M) (hY0 : Y.1 a = some (2, [c, b, p, vd, ac])) (hY1 : Y.1 c = some (3, [b, da, n])) (hY2 : Y.1 b = some (1, [da, n])) (hY3 : Y.1 p = some (7, pp)) (hY4 : Y.1 vd = some (10, [])) (hY5 : Y.1 ac = some (0, [c, b, p, vd])) (hY6 : Y.1 me = some (6, [da, n])) {d : Nat} (hd : 5 ≤ d) : mt (mT g) d 65 [.ref a, .ref me, .int x2] M (qZ g Y M) := by
  obtain ⟨d, rfl⟩ : ∃ e, d = e + 1 := ⟨d - 1, by omega⟩
  have hS : st g Y M M := st.rf hW
  refine mt_in (b := mb_65 g) rfl rfl ?_
  show ml (mT g) d (mb_65 g).2 (0, [(0, .ref a), (1, .ref me), (2, .int x2)], [], M) _
  refine ml_blk 2 (S' := (2, [(0, .ref a), (1, .ref me), (2, .int x2)], [.ref me, .ref a], M)) rfl ?_
  refine tg_int rfl hS.1 hY6 (by decide) rfl (fun u1 g2 => ?_)
  show ml _ _ _ (5, [(0, .ref a), (1, .ref me), (2, .int x2)], [.int u1, .ref a], M) _
  refine ml_call (a := [.ref a, .int u1]) (rest := []) rfl (okc_t rfl rfl rfl hS.1 hY0 (by decide)) rfl rfl (tw_Cl_methodNameHolds hS.1 hY0 hY1 hY2 hY3 hY4 hY5 (by omega)) (fun v3 M4 h5 => ?_)
  obtain ⟨⟨u6, rfl, z7⟩, h5⟩ := h5
  rw [h5]
  show ml _ _ _ (8, [(0, .ref a), (1, .ref me), (2, .int x2)], [.int u6], M) _
  refine ml_if (S1 := (27, [(0, .ref a), (1, .ref me), (2, .int x2)], [], M)) (S2 := (11, [(0, .ref a), (1, .ref me), (2, .int x2)], [], M)) rfl rfl rfl (fun c_8 => ?_) (fun c_8 => ?_)
  · have c_8 : ¬ u6 = 0 := of_decide_eq_true c_8
    refine ml_blk 2 (S' := (29, [(0, .ref a), (1, .ref me), (2, .int x2)], [.ref me, .ref a], M)) rfl ?_
    refine ml_call (a := [.ref a, .ref me]) (rest := []) rfl (okc_t rfl rfl rfl hS.1 hY0 (by decide)) rfl rfl (tw_Cl_methodFlagsHold hS.1 hY0 hY1 hY2 hY3 hY4 hY5 hY6 (by omega)) (fun v8 M9 h10 => ?_)
    obtain ⟨⟨u11, rfl, z12⟩, h10⟩ := h10
    rw [h10]
    show ml _ _ _ (32, [(0, .ref a), (1, .ref me), (2, .int x2)], [.int u11], M) _
    refine ml_if (S1 := (49, [(0, .ref a), (1, .ref me), (2, .int x2)], [], M)) (S2 := (35, [(0, .ref a), (1, .ref me), (2, .int x2)], [], M)) rfl rfl rfl (fun c_32 => ?_) (fun c_32 => ?_)
    · have c_32 : ¬ u11 = 0 := of_decide_eq_true c_32
      refine ml_blk 2 (S' := (51, [(0, .ref a), (1, .ref me), (2, .int x2)], [.ref a, .ref me], M)) rfl ?_
      refine tg_ref (S' := (54, [(0, .ref a), (1, .ref me), (2, .int x2)], [.ref p, .ref me], M)) rfl hS.1 hY0 (by decide) rfl rfl ?_
      refine ml_st (S' := (55, [(0, .ref a), (1, .ref me), (2, .int x2)], [.ref me, .ref p, .ref me], M)) rfl rfl rfl ?_
      refine tg_int rfl hS.1 hY6 (by decide) rfl (fun u13 g14 => ?_)
      show ml _ _ _ (58, [(0, .ref a), (1, .ref me), (2, .int x2)], [.int u13, .ref p, .ref me], M) _
      refine ml_call (a := [.ref p, .int u13]) (rest := [.ref me]) rfl (okc_t rfl rfl rfl hS.1 hY3 (by decide)) rfl rfl (tq_argumentPlaces hS.1 hY3 (by omega)) (fun v15 M16 h17 => ?_)
      obtain ⟨⟨u18, rfl⟩, h17⟩ := h17
      rw [h17]
      show ml _ _ _ (61, [(0, .ref a), (1, .ref me), (2, .int x2)], [.int u18, .ref me], M) _
      refine ml_blk 2 (S' := (64, [(0, .ref a), (1, .ref me), (2, .int x2)], [.int 8, .ref me, .int u18, .ref me], M)) rfl ?_
      refine ml_call (a := [.ref me, .int 8]) (rest := [.int u18, .ref me]) rfl (okc_t rfl rfl rfl hS.1 hY6 (by decide)) rfl rfl (tw_Me_has hS.1 hY6 (by omega)) (fun v19 M20 h21 => ?_)
      obtain ⟨⟨u22, rfl, z23⟩, h21⟩ := h21
      rw [h21]
      show ml _ _ _ (67, [(0, .ref a), (1, .ref me), (2, .int x2)], [.int u22, .int u18, .ref me], M) _
      have J_75 : ∀ (s75_0 : Int32), ml (mT g) d (mb_65 g).2 (75, [(0, .ref a), (1, .ref me), (2, .int x2)], [.int s75_0, .int u18, .ref me], M) (qZ g Y M) := by
        intro s75_0
        refine ml_st (S' := (76, [(0, .ref a), (1, .ref me), (2, .int x2)], [.int (u18 + s75_0), .ref me], M)) rfl rfl rfl ?_
        refine tp_put rfl hS hY6 (by decide) rfl (⟨_, rfl⟩) rfl rfl (fun M24 hS25 f26 => ?_)
        show ml _ _ _ (79, [(0, .ref a), (1, .ref me), (2, .int x2)], [], M24) _
        refine ml_blk 2 (S' := (81, [(0, .ref a), (1, .ref me), (2, .int x2)], [.ref me, .ref a], M24)) rfl ?_
        refine ml_call (a := [.ref a, .ref me]) (rest := []) rfl (okc_t rfl rfl rfl hS25.1 hY0 (by decide)) rfl rfl (tw_Cl_methodDescriptorHolds hS25.1 hY0 hY1 hY2 hY3 hY4 hY5 hY6 (by omega)) (fun v27 M28 h29 => ?_)
        obtain ⟨⟨u30, rfl, z31⟩, h29⟩ := h29
        rw [h29]
        show ml _ _ _ (84, [(0, .ref a), (1, .ref me), (2, .int x2)], [.int u30], M24) _
        refine ml_if (S1 := (103, [(0, .ref a), (1, .ref me), (2, .int x2)], [], M24)) (S2 := (87, [(0, .ref a), (1, .ref me), (2, .int x2)], [], M24)) rfl rfl rfl (fun c_84 => ?_) (fun c_84 => ?_)
        · have c_84 : ¬ u30 = 0 := of_decide_eq_true c_84
          refine ml_st (S' := (104, [(0, .ref a), (1, .ref me), (2, .int x2)], [.ref a], M24)) rfl rfl rfl ?_
          refine tg_ref (S' := (107, [(0, .ref a), (1, .ref me), (2, .int x2)], [.ref p], M24)) rfl hS25.1 hY0 (by decide) rfl rfl ?_
          refine ml_st (S' := (108, [(0, .ref a), (1, .ref me), (2, .int x2)], [.ref a, .ref p], M24)) rfl rfl rfl ?_
          refine tg_ref (S' := (111, [(0, .ref a), (1, .ref me), (2, .int x2)], [.ref c, .ref p], M24)) rfl hS25.1 hY0 (by decide) rfl rfl ?_
          refine tg_vo rfl hS25.1 hY1 (by decide) rfl (fun b32 g34 h33 => ?_)
          obtain ⟨k35, h33⟩ := h33
          show ml _ _ _ (114, [(0, .ref a), (1, .ref me), (2, .int x2)], [.ref b32, .ref p], M24) _
          refine ml_blk 2 (S' := (116, [(0, .ref a), (1, .ref me), (2, .int x2)], [.ref me, .int x2, .ref b32, .ref p], M24)) rfl ?_
          refine tg_int rfl hS25.1 hY6 (by decide) rfl (fun u36 g37 => ?_)
          show ml _ _ _ (119, [(0, .ref a), (1, .ref me), (2, .int x2)], [.int u36, .int x2, .ref b32, .ref p], M24) _
          refine ml_st (S' := (120, [(0, .ref a), (1, .ref me), (2, .int x2)], [.ref me, .int u36, .int x2, .ref b32, .ref p], M24)) rfl rfl rfl ?_
          refine tg_int rfl hS25.1 hY6 (by decide) rfl (fun u38 g39 => ?_)
          show ml _ _ _ (123, [(0, .ref a), (1, .ref me), (2, .int x2)], [.int u38, .int u36, .int x2, .ref b32, .ref p], M24) _
          refine ml_call (a := [.ref p, .ref b32, .int x2, .int u36, .int u38]) (rest := []) rfl (okc_t rfl rfl rfl hS25.1 hY3 (by decide)) rfl rfl (tw_Po_sameMember hS25.1 hY3 h33 (by omega)) (fun v40 M41 h42 => ?_)
          obtain ⟨⟨u43, rfl⟩, h42⟩ := h42
          rw [h42]
          show ml _ _ _ (126, [(0, .ref a), (1, .ref me), (2, .int x2)], [.int u43], M24) _
          refine ml_if (S1 := (143, [(0, .ref a), (1, .ref me), (2, .int x2)], [], M24)) (S2 := (129, [(0, .ref a), (1, .ref me), (2, .int x2)], [], M24)) rfl rfl rfl (fun c_126 => ?_) (fun c_126 => ?_)
          · have c_126 : u43 < 0 := of_decide_eq_true c_126
            refine ml_st (S' := (144, [(0, .ref a), (1, .ref me), (2, .int x2)], [.int 1], M24)) rfl rfl rfl ?_
            exact ml_ret rfl (r_z (Or.inr rfl)) (⟨⟨_, rfl, Or.inr rfl⟩, hS25⟩)
          · have c_126 : ¬ (u43 < 0) := of_decide_eq_false c_126
            refine ml_st (S' := (130, [(0, .ref a), (1, .ref me), (2, .int x2)], [.ref a], M24)) rfl rfl rfl ?_
            refine tg_ref (S' := (133, [(0, .ref a), (1, .ref me), (2, .int x2)], [.ref vd], M24)) rfl hS25.1 hY0 (by decide) rfl rfl ?_
            refine ml_blk 2 (S' := (136, [(0, .ref a), (1, .ref me), (2, .int x2)], [.ref me, .int 26, .ref vd], M24)) rfl ?_
            refine tg_int rfl hS25.1 hY6 (by decide) rfl (fun u44 g45 => ?_)
            show ml _ _ _ (139, [(0, .ref a), (1, .ref me), (2, .int x2)], [.int u44, .int 26, .ref vd], M24) _
            refine ml_call (a := [.ref vd, .int 26, .int u44]) (rest := []) rfl (okc_t rfl rfl rfl hS25.1 hY4 (by decide)) rfl rfl (tw_Ve_wrong hS25.1 hY4 (by omega)) (fun v46 M47 h48 => ?_)
            obtain ⟨rfl, h48⟩ := h48
            have hS50 := hS25.tr h48.1
            show ml _ _ _ (142, [(0, .ref a), (1, .ref me), (2, .int x2)], [.int 0], M47) _
            exact ml_ret rfl (r_z (Or.inl rfl)) (⟨⟨_, rfl, Or.inl rfl⟩, hS50⟩)
        · have c_84 : ¬ (¬ u30 = 0) := of_decide_eq_false c_84
          refine ml_st (S' := (88, [(0, .ref a), (1, .ref me), (2, .int x2)], [.ref a], M24)) rfl rfl rfl ?_
          refine tg_ref (S' := (91, [(0, .ref a), (1, .ref me), (2, .int x2)], [.ref vd], M24)) rfl hS25.1 hY0 (by decide) rfl rfl ?_
          refine ml_blk 2 (S' := (94, [(0, .ref a), (1, .ref me), (2, .int x2)], [.ref me, .int 25, .ref vd], M24)) rfl ?_
          refine tg_int rfl hS25.1 hY6 (by decide) rfl (fun u51 g52 => ?_)
          show ml _ _ _ (97, [(0, .ref a), (1, .ref me), (2, .int x2)], [.int u51, .int 25, .ref vd], M24) _
          refine ml_blk 2 (S' := (99, [(0, .ref a), (1, .ref me), (2, .int x2)], [.int (u51 + 4), .int 25, .ref vd], M24)) rfl ?_
          refine ml_call (a := [.ref vd, .int 25, .int (u51 + 4)]) (rest := []) rfl (okc_t rfl rfl rfl hS25.1 hY4 (by decide)) rfl rfl (tw_Ve_wrong hS25.1 hY4 (by omega)) (fun v53 M54 h55 => ?_)
          obtain ⟨rfl, h55⟩ := h55
          have hS57 := hS25.tr h55.1
          show ml _ _ _ (102, [(0, .ref a), (1, .ref me), (2, .int x2)], [.int 0], M54) _
          exact ml_ret rfl (r_z (Or.inl rfl)) (⟨⟨_, rfl, Or.inl rfl⟩, hS57⟩)
      refine ml_if (S1 := (74, [(0, .ref a), (1, .ref me), (2, .int x2)], [.int u18, .ref me], M)) (S2 := (70, [(0, .ref a), (1, .ref me), (2, .int x2)], [.int u18, .ref me], M)) rfl rfl rfl (fun c_67 => ?_) (fun c_67 => ?_)
      · have c_67 : u22 = 0 := of_decide_eq_true c_67
        refine ml_st (S' := (75, [(0, .ref a), (1, .ref me), (2, .int x2)], [.int 1, .int u18, .ref me], M)) rfl rfl rfl ?_
        exact J_75 1
      · have c_67 : ¬ (u22 = 0) := of_decide_eq_false c_67
        refine ml_st (S' := (71, [(0, .ref a), (1, .ref me), (2, .int x2)], [.int 0, .int u18, .ref me], M)) rfl rfl rfl ?_
        refine ml_st (S' := (75, [(0, .ref a), (1, .ref me), (2, .int x2)], [.int 0, .int u18, .ref me], M)) rfl rfl rfl ?_
        exact J_75 0
    · have c_32 : ¬ (¬ u11 = 0) := of_decide_eq_false c_32
      refine ml_st (S' := (36, [(0, .ref a), (1, .ref me), (2, .int x2)], [.ref a], M)) rfl rfl rfl ?_
      refine tg_ref (S' := (39, [(0, .ref a), (1, .ref me), (2, .int x2)], [.ref vd], M)) rfl hS.1 hY0 (by decide) rfl rfl ?_
      refine ml_blk 2 (S' := (42, [(0, .ref a), (1, .ref me), (2, .int x2)], [.ref me, .int 23, .ref vd], M)) rfl ?_
      refine tg_int rfl hS.1 hY6 (by decide) rfl (fun u58 g59 => ?_)
      show ml _ _ _ (45, [(0, .ref a), (1, .ref me), (2, .int x2)], [.int u58, .int 23, .ref vd], M) _
      refine ml_call (a := [.ref vd, .int 23, .int u58]) (rest := []) rfl (okc_t rfl rfl rfl hS.1 hY4 (by decide)) rfl rfl (tw_Ve_wrong hS.1 hY4 (by omega)) (fun v60 M61 h62 => ?_)
      obtain ⟨rfl, h62⟩ := h62
      have hS64 := hS.tr h62.1
      show ml _ _ _ (48, [(0, .ref a), (1, .ref me), (2, .int x2)], [.int 0], M61) _
      exact ml_ret rfl (r_z (Or.inl rfl)) (⟨⟨_, rfl, Or.inl rfl⟩, hS64⟩)
  · have c_8 : ¬ (¬ u6 = 0) := of_decide_eq_false c_8
    refine ml_st (S' := (12, [(0, .ref a), (1, .ref me), (2, .int x2)], [.ref a], M)) rfl rfl rfl ?_
    refine tg_ref (S' := (15, [(0, .ref a), (1, .ref me), (2, .int x2)], [.ref vd], M)) rfl hS.1 hY0 (by decide) rfl rfl ?_
    refine ml_blk 2 (S' := (18, [(0, .ref a), (1, .ref me), (2, .int x2)], [.ref me, .int 24, .ref vd], M)) rfl ?_
    refine tg_int rfl hS.1 hY6 (by decide) rfl (fun u65 g66 => ?_)
    show ml _ _ _ (21, [(0, .ref a), (1, .ref me), (2, .int x2)], [.int u65, .int 24, .ref vd], M) _
    refine ml_blk 2 (S' := (23, [(0, .ref a), (1, .ref me), (2, .int x2)], [.int (u65 + 2), .int 24, .ref vd], M)) rfl ?_
    refine ml_call (a := [.ref vd, .int 24, .int (u65 + 2)]) (rest := []) rfl (okc_t rfl rfl rfl hS.1 hY4 (by decide)) rfl rfl (tw_Ve_wrong hS.1 hY4 (by omega)) (fun v67 M68 h69 => ?_)
    obtain ⟨rfl, h69⟩ := h69
    have hS71 := hS.tr h69.1
    show ml _ _ _ (26, [(0, .ref a), (1, .ref me), (2, .int x2)], [.int 0], M68) _
    exact ml_ret rfl (r_z (Or.inl rfl)) (⟨⟨_, rfl, Or.inl rfl⟩, hS71⟩)
