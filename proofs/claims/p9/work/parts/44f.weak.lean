set_option maxHeartbeats 2000000 in
theorem tw_Cl_fieldHolds {g : xe_G} {M : mi_H} {Y : yT} {a c b p vd ac da n me : Nat} {pp : List Nat} {x2 : Int32}  (hW : WF g Y M) (hY0 : Y.1 a = some (2, [c, b, p, vd, ac])) (hY1 : Y.1 c = some (3, [b, da, n])) (hY2 : Y.1 b = some (1, [da, n])) (hY3 : Y.1 p = some (7, pp)) (hY4 : Y.1 vd = some (10, [])) (hY5 : Y.1 ac = some (0, [c, b, p, vd])) (hY6 : Y.1 me = some (6, [da, n])) {d : Nat} (hd : 4 ≤ d) : mt (mT g) d 56 [.ref a, .ref me, .int x2] M (qZ g Y M) := by
  obtain ⟨d, rfl⟩ : ∃ e, d = e + 1 := ⟨d - 1, by omega⟩
  have hS : st g Y M M := st.rf hW
  refine mt_in (b := mb_56 g) rfl rfl ?_
  show ml (mT g) d (mb_56 g).2 (0, [(0, .ref a), (1, .ref me), (2, .int x2)], [], M) _
  refine ml_blk 2 (S' := (2, [(0, .ref a), (1, .ref me), (2, .int x2)], [.ref me, .ref a], M)) rfl ?_
  refine tg_int rfl hS.1 hY6 (by decide) rfl (fun u1 g2 => ?_)
  show ml _ _ _ (5, [(0, .ref a), (1, .ref me), (2, .int x2)], [.int u1, .ref a], M) _
  refine ml_call (a := [.ref a, .int u1]) (rest := []) rfl (okc_t rfl rfl rfl hS.1 hY0 (by decide)) rfl rfl (tw_Cl_fieldFlagsHold hS.1 hY0 hY1 hY2 hY3 hY4 hY5 (by omega)) (fun v3 M4 h5 => ?_)
  obtain ⟨⟨u6, rfl, z7⟩, h5⟩ := h5
  rw [h5]
  show ml _ _ _ (8, [(0, .ref a), (1, .ref me), (2, .int x2)], [.int u6], M) _
  refine ml_if (S1 := (25, [(0, .ref a), (1, .ref me), (2, .int x2)], [], M)) (S2 := (11, [(0, .ref a), (1, .ref me), (2, .int x2)], [], M)) rfl rfl rfl (fun c_8 => ?_) (fun c_8 => ?_)
  · have c_8 : ¬ u6 = 0 := of_decide_eq_true c_8
    refine ml_st (S' := (26, [(0, .ref a), (1, .ref me), (2, .int x2)], [.ref a], M)) rfl rfl rfl ?_
    refine tg_ref (S' := (29, [(0, .ref a), (1, .ref me), (2, .int x2)], [.ref p], M)) rfl hS.1 hY0 (by decide) rfl rfl ?_
    refine ml_st (S' := (30, [(0, .ref a), (1, .ref me), (2, .int x2)], [.ref me, .ref p], M)) rfl rfl rfl ?_
    refine tg_int rfl hS.1 hY6 (by decide) rfl (fun u8 g9 => ?_)
    show ml _ _ _ (33, [(0, .ref a), (1, .ref me), (2, .int x2)], [.int u8, .ref p], M) _
    refine ml_call (a := [.ref p, .int u8]) (rest := []) rfl (okc_t rfl rfl rfl hS.1 hY3 (by decide)) rfl rfl (tq_isUnqualifiedName hS.1 hY3 (by omega)) (fun v10 M11 h12 => ?_)
    obtain ⟨⟨u13, rfl, z14⟩, h12⟩ := h12
    rw [h12]
    show ml _ _ _ (36, [(0, .ref a), (1, .ref me), (2, .int x2)], [.int u13], M) _
    refine ml_if (S1 := (55, [(0, .ref a), (1, .ref me), (2, .int x2)], [], M)) (S2 := (39, [(0, .ref a), (1, .ref me), (2, .int x2)], [], M)) rfl rfl rfl (fun c_36 => ?_) (fun c_36 => ?_)
    · have c_36 : ¬ u13 = 0 := of_decide_eq_true c_36
      refine ml_st (S' := (56, [(0, .ref a), (1, .ref me), (2, .int x2)], [.ref a], M)) rfl rfl rfl ?_
      refine tg_ref (S' := (59, [(0, .ref a), (1, .ref me), (2, .int x2)], [.ref p], M)) rfl hS.1 hY0 (by decide) rfl rfl ?_
      refine ml_st (S' := (60, [(0, .ref a), (1, .ref me), (2, .int x2)], [.ref me, .ref p], M)) rfl rfl rfl ?_
      refine tg_int rfl hS.1 hY6 (by decide) rfl (fun u15 g16 => ?_)
      show ml _ _ _ (63, [(0, .ref a), (1, .ref me), (2, .int x2)], [.int u15, .ref p], M) _
      refine ml_call (a := [.ref p, .int u15]) (rest := []) rfl (okc_t rfl rfl rfl hS.1 hY3 (by decide)) rfl rfl (tq_isFieldDescriptor hS.1 hY3 (by omega)) (fun v17 M18 h19 => ?_)
      obtain ⟨⟨u20, rfl, z21⟩, h19⟩ := h19
      rw [h19]
      show ml _ _ _ (66, [(0, .ref a), (1, .ref me), (2, .int x2)], [.int u20], M) _
      refine ml_if (S1 := (85, [(0, .ref a), (1, .ref me), (2, .int x2)], [], M)) (S2 := (69, [(0, .ref a), (1, .ref me), (2, .int x2)], [], M)) rfl rfl rfl (fun c_66 => ?_) (fun c_66 => ?_)
      · have c_66 : ¬ u20 = 0 := of_decide_eq_true c_66
        refine ml_st (S' := (86, [(0, .ref a), (1, .ref me), (2, .int x2)], [.ref a], M)) rfl rfl rfl ?_
        refine tg_ref (S' := (89, [(0, .ref a), (1, .ref me), (2, .int x2)], [.ref p], M)) rfl hS.1 hY0 (by decide) rfl rfl ?_
        refine ml_st (S' := (90, [(0, .ref a), (1, .ref me), (2, .int x2)], [.ref a, .ref p], M)) rfl rfl rfl ?_
        refine tg_ref (S' := (93, [(0, .ref a), (1, .ref me), (2, .int x2)], [.ref c, .ref p], M)) rfl hS.1 hY0 (by decide) rfl rfl ?_
        refine tg_vo rfl hS.1 hY1 (by decide) rfl (fun b22 g24 h23 => ?_)
        obtain ⟨k25, h23⟩ := h23
        show ml _ _ _ (96, [(0, .ref a), (1, .ref me), (2, .int x2)], [.ref b22, .ref p], M) _
        refine ml_blk 2 (S' := (98, [(0, .ref a), (1, .ref me), (2, .int x2)], [.ref me, .int x2, .ref b22, .ref p], M)) rfl ?_
        refine ml_get (S' := (101, [(0, .ref a), (1, .ref me), (2, .int x2)], [.int u8, .int x2, .ref b22, .ref p], M)) rfl g9 rfl ?_
        refine ml_st (S' := (102, [(0, .ref a), (1, .ref me), (2, .int x2)], [.ref me, .int u8, .int x2, .ref b22, .ref p], M)) rfl rfl rfl ?_
        refine ml_get (S' := (105, [(0, .ref a), (1, .ref me), (2, .int x2)], [.int u15, .int u8, .int x2, .ref b22, .ref p], M)) rfl g16 rfl ?_
        refine ml_call (a := [.ref p, .ref b22, .int x2, .int u8, .int u15]) (rest := []) rfl (okc_t rfl rfl rfl hS.1 hY3 (by decide)) rfl rfl (tw_Po_sameMember hS.1 hY3 h23 (by omega)) (fun v26 M27 h28 => ?_)
        obtain ⟨⟨u29, rfl⟩, h28⟩ := h28
        rw [h28]
        show ml _ _ _ (108, [(0, .ref a), (1, .ref me), (2, .int x2)], [.int u29], M) _
        refine ml_if (S1 := (125, [(0, .ref a), (1, .ref me), (2, .int x2)], [], M)) (S2 := (111, [(0, .ref a), (1, .ref me), (2, .int x2)], [], M)) rfl rfl rfl (fun c_108 => ?_) (fun c_108 => ?_)
        · have c_108 : u29 < 0 := of_decide_eq_true c_108
          refine ml_st (S' := (126, [(0, .ref a), (1, .ref me), (2, .int x2)], [.int 1], M)) rfl rfl rfl ?_
          exact ml_ret rfl (r_z (Or.inr rfl)) (⟨⟨_, rfl, Or.inr rfl⟩, hS⟩)
        · have c_108 : ¬ (u29 < 0) := of_decide_eq_false c_108
          refine ml_st (S' := (112, [(0, .ref a), (1, .ref me), (2, .int x2)], [.ref a], M)) rfl rfl rfl ?_
          refine tg_ref (S' := (115, [(0, .ref a), (1, .ref me), (2, .int x2)], [.ref vd], M)) rfl hS.1 hY0 (by decide) rfl rfl ?_
          refine ml_blk 2 (S' := (118, [(0, .ref a), (1, .ref me), (2, .int x2)], [.ref me, .int 22, .ref vd], M)) rfl ?_
          refine tg_int rfl hS.1 hY6 (by decide) rfl (fun u30 g31 => ?_)
          show ml _ _ _ (121, [(0, .ref a), (1, .ref me), (2, .int x2)], [.int u30, .int 22, .ref vd], M) _
          refine ml_call (a := [.ref vd, .int 22, .int u30]) (rest := []) rfl (okc_t rfl rfl rfl hS.1 hY4 (by decide)) rfl rfl (tw_Ve_wrong hS.1 hY4 (by omega)) (fun v32 M33 h34 => ?_)
          obtain ⟨rfl, h34⟩ := h34
          have hS36 := hS.tr h34.1
          show ml _ _ _ (124, [(0, .ref a), (1, .ref me), (2, .int x2)], [.int 0], M33) _
          exact ml_ret rfl (r_z (Or.inl rfl)) (⟨⟨_, rfl, Or.inl rfl⟩, hS36⟩)
      · have c_66 : ¬ (¬ u20 = 0) := of_decide_eq_false c_66
        refine ml_st (S' := (70, [(0, .ref a), (1, .ref me), (2, .int x2)], [.ref a], M)) rfl rfl rfl ?_
        refine tg_ref (S' := (73, [(0, .ref a), (1, .ref me), (2, .int x2)], [.ref vd], M)) rfl hS.1 hY0 (by decide) rfl rfl ?_
        refine ml_blk 2 (S' := (76, [(0, .ref a), (1, .ref me), (2, .int x2)], [.ref me, .int 21, .ref vd], M)) rfl ?_
        refine tg_int rfl hS.1 hY6 (by decide) rfl (fun u37 g38 => ?_)
        show ml _ _ _ (79, [(0, .ref a), (1, .ref me), (2, .int x2)], [.int u37, .int 21, .ref vd], M) _
        refine ml_blk 2 (S' := (81, [(0, .ref a), (1, .ref me), (2, .int x2)], [.int (u37 + 4), .int 21, .ref vd], M)) rfl ?_
        refine ml_call (a := [.ref vd, .int 21, .int (u37 + 4)]) (rest := []) rfl (okc_t rfl rfl rfl hS.1 hY4 (by decide)) rfl rfl (tw_Ve_wrong hS.1 hY4 (by omega)) (fun v39 M40 h41 => ?_)
        obtain ⟨rfl, h41⟩ := h41
        have hS43 := hS.tr h41.1
        show ml _ _ _ (84, [(0, .ref a), (1, .ref me), (2, .int x2)], [.int 0], M40) _
        exact ml_ret rfl (r_z (Or.inl rfl)) (⟨⟨_, rfl, Or.inl rfl⟩, hS43⟩)
    · have c_36 : ¬ (¬ u13 = 0) := of_decide_eq_false c_36
      refine ml_st (S' := (40, [(0, .ref a), (1, .ref me), (2, .int x2)], [.ref a], M)) rfl rfl rfl ?_
      refine tg_ref (S' := (43, [(0, .ref a), (1, .ref me), (2, .int x2)], [.ref vd], M)) rfl hS.1 hY0 (by decide) rfl rfl ?_
      refine ml_blk 2 (S' := (46, [(0, .ref a), (1, .ref me), (2, .int x2)], [.ref me, .int 20, .ref vd], M)) rfl ?_
      refine tg_int rfl hS.1 hY6 (by decide) rfl (fun u44 g45 => ?_)
      show ml _ _ _ (49, [(0, .ref a), (1, .ref me), (2, .int x2)], [.int u44, .int 20, .ref vd], M) _
      refine ml_blk 2 (S' := (51, [(0, .ref a), (1, .ref me), (2, .int x2)], [.int (u44 + 2), .int 20, .ref vd], M)) rfl ?_
      refine ml_call (a := [.ref vd, .int 20, .int (u44 + 2)]) (rest := []) rfl (okc_t rfl rfl rfl hS.1 hY4 (by decide)) rfl rfl (tw_Ve_wrong hS.1 hY4 (by omega)) (fun v46 M47 h48 => ?_)
      obtain ⟨rfl, h48⟩ := h48
      have hS50 := hS.tr h48.1
      show ml _ _ _ (54, [(0, .ref a), (1, .ref me), (2, .int x2)], [.int 0], M47) _
      exact ml_ret rfl (r_z (Or.inl rfl)) (⟨⟨_, rfl, Or.inl rfl⟩, hS50⟩)
  · have c_8 : ¬ (¬ u6 = 0) := of_decide_eq_false c_8
    refine ml_st (S' := (12, [(0, .ref a), (1, .ref me), (2, .int x2)], [.ref a], M)) rfl rfl rfl ?_
    refine tg_ref (S' := (15, [(0, .ref a), (1, .ref me), (2, .int x2)], [.ref vd], M)) rfl hS.1 hY0 (by decide) rfl rfl ?_
    refine ml_blk 2 (S' := (18, [(0, .ref a), (1, .ref me), (2, .int x2)], [.ref me, .int 19, .ref vd], M)) rfl ?_
    refine tg_int rfl hS.1 hY6 (by decide) rfl (fun u51 g52 => ?_)
    show ml _ _ _ (21, [(0, .ref a), (1, .ref me), (2, .int x2)], [.int u51, .int 19, .ref vd], M) _
    refine ml_call (a := [.ref vd, .int 19, .int u51]) (rest := []) rfl (okc_t rfl rfl rfl hS.1 hY4 (by decide)) rfl rfl (tw_Ve_wrong hS.1 hY4 (by omega)) (fun v53 M54 h55 => ?_)
    obtain ⟨rfl, h55⟩ := h55
    have hS57 := hS.tr h55.1
    show ml _ _ _ (24, [(0, .ref a), (1, .ref me), (2, .int x2)], [.int 0], M54) _
    exact ml_ret rfl (r_z (Or.inl rfl)) (⟨⟨_, rfl, Or.inl rfl⟩, hS57⟩)
set_option maxHeartbeats 2000000 in
theorem tw_Cl_methodHolds {g : xe_G} {M : mi_H} {Y : yT} {a c b p vd ac da n me : Nat} {pp : List Nat} {x2 : Int32}  (hW : WF g Y M) (hY0 : Y.1 a = some (2, [c, b, p, vd, ac])) (hY1 : Y.1 c = some (3, [b, da, n])) (hY2 : Y.1 b = some (1, [da, n])) (hY3 : Y.1 p = some (7, pp)) (hY4 : Y.1 vd = some (10, [])) (hY5 : Y.1 ac = some (0, [c, b, p, vd])) (hY6 : Y.1 me = some (6, [da, n])) {d : Nat} (hd : 5 ≤ d) : mt (mT g) d 65 [.ref a, .ref me, .int x2] M (fZ g Y [me, vd] M) := by
  obtain ⟨d, rfl⟩ : ∃ e, d = e + 1 := ⟨d - 1, by omega⟩
  have hS : sf g Y [me, vd] M M := sf.rf hW
  refine mt_in (b := mb_65 g) rfl rfl ?_
  show ml (mT g) d (mb_65 g).2 (0, [(0, .ref a), (1, .ref me), (2, .int x2)], [], M) _
  refine ml_blk 2 (S' := (2, [(0, .ref a), (1, .ref me), (2, .int x2)], [.ref me, .ref a], M)) rfl ?_
  refine tg_int rfl hS.1.1 hY6 (by decide) rfl (fun u1 g2 => ?_)
  show ml _ _ _ (5, [(0, .ref a), (1, .ref me), (2, .int x2)], [.int u1, .ref a], M) _
  refine ml_call (a := [.ref a, .int u1]) (rest := []) rfl (okc_t rfl rfl rfl hS.1.1 hY0 (by decide)) rfl rfl (tw_Cl_methodNameHolds hS.1.1 hY0 hY1 hY2 hY3 hY4 hY5 (by omega)) (fun v3 M4 h5 => ?_)
  obtain ⟨⟨u6, rfl, z7⟩, h5⟩ := h5
  rw [h5]
  show ml _ _ _ (8, [(0, .ref a), (1, .ref me), (2, .int x2)], [.int u6], M) _
  refine ml_if (S1 := (27, [(0, .ref a), (1, .ref me), (2, .int x2)], [], M)) (S2 := (11, [(0, .ref a), (1, .ref me), (2, .int x2)], [], M)) rfl rfl rfl (fun c_8 => ?_) (fun c_8 => ?_)
  · have c_8 : ¬ u6 = 0 := of_decide_eq_true c_8
    refine ml_blk 2 (S' := (29, [(0, .ref a), (1, .ref me), (2, .int x2)], [.ref me, .ref a], M)) rfl ?_
    refine ml_call (a := [.ref a, .ref me]) (rest := []) rfl (okc_t rfl rfl rfl hS.1.1 hY0 (by decide)) rfl rfl (tw_Cl_methodFlagsHold hS.1.1 hY0 hY1 hY2 hY3 hY4 hY5 hY6 (by omega)) (fun v8 M9 h10 => ?_)
    obtain ⟨⟨u11, rfl, z12⟩, h10⟩ := h10
    rw [h10]
    show ml _ _ _ (32, [(0, .ref a), (1, .ref me), (2, .int x2)], [.int u11], M) _
    refine ml_if (S1 := (49, [(0, .ref a), (1, .ref me), (2, .int x2)], [], M)) (S2 := (35, [(0, .ref a), (1, .ref me), (2, .int x2)], [], M)) rfl rfl rfl (fun c_32 => ?_) (fun c_32 => ?_)
    · have c_32 : ¬ u11 = 0 := of_decide_eq_true c_32
      refine ml_blk 2 (S' := (51, [(0, .ref a), (1, .ref me), (2, .int x2)], [.ref a, .ref me], M)) rfl ?_
      refine tg_ref (S' := (54, [(0, .ref a), (1, .ref me), (2, .int x2)], [.ref p, .ref me], M)) rfl hS.1.1 hY0 (by decide) rfl rfl ?_
      refine ml_st (S' := (55, [(0, .ref a), (1, .ref me), (2, .int x2)], [.ref me, .ref p, .ref me], M)) rfl rfl rfl ?_
      refine tg_int rfl hS.1.1 hY6 (by decide) rfl (fun u13 g14 => ?_)
      show ml _ _ _ (58, [(0, .ref a), (1, .ref me), (2, .int x2)], [.int u13, .ref p, .ref me], M) _
      refine ml_call (a := [.ref p, .int u13]) (rest := [.ref me]) rfl (okc_t rfl rfl rfl hS.1.1 hY3 (by decide)) rfl rfl (tq_argumentPlaces hS.1.1 hY3 (by omega)) (fun v15 M16 h17 => ?_)
      obtain ⟨⟨u18, rfl⟩, h17⟩ := h17
      rw [h17]
      show ml _ _ _ (61, [(0, .ref a), (1, .ref me), (2, .int x2)], [.int u18, .ref me], M) _
      refine ml_blk 2 (S' := (64, [(0, .ref a), (1, .ref me), (2, .int x2)], [.int 8, .ref me, .int u18, .ref me], M)) rfl ?_
      refine ml_call (a := [.ref me, .int 8]) (rest := [.int u18, .ref me]) rfl (okc_t rfl rfl rfl hS.1.1 hY6 (by decide)) rfl rfl (tw_Me_has hS.1.1 hY6 (by omega)) (fun v19 M20 h21 => ?_)
      obtain ⟨⟨u22, rfl, z23⟩, h21⟩ := h21
      rw [h21]
      show ml _ _ _ (67, [(0, .ref a), (1, .ref me), (2, .int x2)], [.int u22, .int u18, .ref me], M) _
      have J_75 : ∀ (s75_0 : Int32), ml (mT g) d (mb_65 g).2 (75, [(0, .ref a), (1, .ref me), (2, .int x2)], [.int s75_0, .int u18, .ref me], M) (fZ g Y [me, vd] M) := by
        intro s75_0
        refine ml_st (S' := (76, [(0, .ref a), (1, .ref me), (2, .int x2)], [.int (u18 + s75_0), .ref me], M)) rfl rfl rfl ?_
        refine tp_put rfl hS.1 hY6 (by decide) rfl (⟨_, rfl⟩) rfl rfl (fun M24 hS25 f26 => ?_)
        have hS27 := hS.put hS25 f26 (by simp)
        show ml _ _ _ (79, [(0, .ref a), (1, .ref me), (2, .int x2)], [], M24) _
        refine ml_blk 2 (S' := (81, [(0, .ref a), (1, .ref me), (2, .int x2)], [.ref me, .ref a], M24)) rfl ?_
        refine ml_call (a := [.ref a, .ref me]) (rest := []) rfl (okc_t rfl rfl rfl hS27.1.1 hY0 (by decide)) rfl rfl (tw_Cl_methodDescriptorHolds hS27.1.1 hY0 hY1 hY2 hY3 hY4 hY5 hY6 (by omega)) (fun v28 M29 h30 => ?_)
        obtain ⟨⟨u31, rfl, z32⟩, h30⟩ := h30
        rw [h30]
        show ml _ _ _ (84, [(0, .ref a), (1, .ref me), (2, .int x2)], [.int u31], M24) _
        refine ml_if (S1 := (103, [(0, .ref a), (1, .ref me), (2, .int x2)], [], M24)) (S2 := (87, [(0, .ref a), (1, .ref me), (2, .int x2)], [], M24)) rfl rfl rfl (fun c_84 => ?_) (fun c_84 => ?_)
        · have c_84 : ¬ u31 = 0 := of_decide_eq_true c_84
          refine ml_st (S' := (104, [(0, .ref a), (1, .ref me), (2, .int x2)], [.ref a], M24)) rfl rfl rfl ?_
          refine tg_ref (S' := (107, [(0, .ref a), (1, .ref me), (2, .int x2)], [.ref p], M24)) rfl hS27.1.1 hY0 (by decide) rfl rfl ?_
          refine ml_st (S' := (108, [(0, .ref a), (1, .ref me), (2, .int x2)], [.ref a, .ref p], M24)) rfl rfl rfl ?_
          refine tg_ref (S' := (111, [(0, .ref a), (1, .ref me), (2, .int x2)], [.ref c, .ref p], M24)) rfl hS27.1.1 hY0 (by decide) rfl rfl ?_
          refine tg_vo rfl hS27.1.1 hY1 (by decide) rfl (fun b33 g35 h34 => ?_)
          obtain ⟨k36, h34⟩ := h34
          show ml _ _ _ (114, [(0, .ref a), (1, .ref me), (2, .int x2)], [.ref b33, .ref p], M24) _
          refine ml_blk 2 (S' := (116, [(0, .ref a), (1, .ref me), (2, .int x2)], [.ref me, .int x2, .ref b33, .ref p], M24)) rfl ?_
          refine tg_int rfl hS27.1.1 hY6 (by decide) rfl (fun u37 g38 => ?_)
          show ml _ _ _ (119, [(0, .ref a), (1, .ref me), (2, .int x2)], [.int u37, .int x2, .ref b33, .ref p], M24) _
          refine ml_st (S' := (120, [(0, .ref a), (1, .ref me), (2, .int x2)], [.ref me, .int u37, .int x2, .ref b33, .ref p], M24)) rfl rfl rfl ?_
          refine tg_int rfl hS27.1.1 hY6 (by decide) rfl (fun u39 g40 => ?_)
          show ml _ _ _ (123, [(0, .ref a), (1, .ref me), (2, .int x2)], [.int u39, .int u37, .int x2, .ref b33, .ref p], M24) _
          refine ml_call (a := [.ref p, .ref b33, .int x2, .int u37, .int u39]) (rest := []) rfl (okc_t rfl rfl rfl hS27.1.1 hY3 (by decide)) rfl rfl (tw_Po_sameMember hS27.1.1 hY3 h34 (by omega)) (fun v41 M42 h43 => ?_)
          obtain ⟨⟨u44, rfl⟩, h43⟩ := h43
          rw [h43]
          show ml _ _ _ (126, [(0, .ref a), (1, .ref me), (2, .int x2)], [.int u44], M24) _
          refine ml_if (S1 := (143, [(0, .ref a), (1, .ref me), (2, .int x2)], [], M24)) (S2 := (129, [(0, .ref a), (1, .ref me), (2, .int x2)], [], M24)) rfl rfl rfl (fun c_126 => ?_) (fun c_126 => ?_)
          · have c_126 : u44 < 0 := of_decide_eq_true c_126
            refine ml_st (S' := (144, [(0, .ref a), (1, .ref me), (2, .int x2)], [.int 1], M24)) rfl rfl rfl ?_
            exact ml_ret rfl (r_z (Or.inr rfl)) (⟨⟨_, rfl, Or.inr rfl⟩, hS27⟩)
          · have c_126 : ¬ (u44 < 0) := of_decide_eq_false c_126
            refine ml_st (S' := (130, [(0, .ref a), (1, .ref me), (2, .int x2)], [.ref a], M24)) rfl rfl rfl ?_
            refine tg_ref (S' := (133, [(0, .ref a), (1, .ref me), (2, .int x2)], [.ref vd], M24)) rfl hS27.1.1 hY0 (by decide) rfl rfl ?_
            refine ml_blk 2 (S' := (136, [(0, .ref a), (1, .ref me), (2, .int x2)], [.ref me, .int 26, .ref vd], M24)) rfl ?_
            refine tg_int rfl hS27.1.1 hY6 (by decide) rfl (fun u45 g46 => ?_)
            show ml _ _ _ (139, [(0, .ref a), (1, .ref me), (2, .int x2)], [.int u45, .int 26, .ref vd], M24) _
            refine ml_call (a := [.ref vd, .int 26, .int u45]) (rest := []) rfl (okc_t rfl rfl rfl hS27.1.1 hY4 (by decide)) rfl rfl (tw_Ve_wrong hS27.1.1 hY4 (by omega)) (fun v47 M48 h49 => ?_)
            obtain ⟨rfl, h49⟩ := h49
            have hS51 := hS27.tr h49 (by simp)
            show ml _ _ _ (142, [(0, .ref a), (1, .ref me), (2, .int x2)], [.int 0], M48) _
            exact ml_ret rfl (r_z (Or.inl rfl)) (⟨⟨_, rfl, Or.inl rfl⟩, hS51⟩)
        · have c_84 : ¬ (¬ u31 = 0) := of_decide_eq_false c_84
          refine ml_st (S' := (88, [(0, .ref a), (1, .ref me), (2, .int x2)], [.ref a], M24)) rfl rfl rfl ?_
          refine tg_ref (S' := (91, [(0, .ref a), (1, .ref me), (2, .int x2)], [.ref vd], M24)) rfl hS27.1.1 hY0 (by decide) rfl rfl ?_
          refine ml_blk 2 (S' := (94, [(0, .ref a), (1, .ref me), (2, .int x2)], [.ref me, .int 25, .ref vd], M24)) rfl ?_
          refine tg_int rfl hS27.1.1 hY6 (by decide) rfl (fun u52 g53 => ?_)
          show ml _ _ _ (97, [(0, .ref a), (1, .ref me), (2, .int x2)], [.int u52, .int 25, .ref vd], M24) _
          refine ml_blk 2 (S' := (99, [(0, .ref a), (1, .ref me), (2, .int x2)], [.int (u52 + 4), .int 25, .ref vd], M24)) rfl ?_
          refine ml_call (a := [.ref vd, .int 25, .int (u52 + 4)]) (rest := []) rfl (okc_t rfl rfl rfl hS27.1.1 hY4 (by decide)) rfl rfl (tw_Ve_wrong hS27.1.1 hY4 (by omega)) (fun v54 M55 h56 => ?_)
          obtain ⟨rfl, h56⟩ := h56
          have hS58 := hS27.tr h56 (by simp)
          show ml _ _ _ (102, [(0, .ref a), (1, .ref me), (2, .int x2)], [.int 0], M55) _
          exact ml_ret rfl (r_z (Or.inl rfl)) (⟨⟨_, rfl, Or.inl rfl⟩, hS58⟩)
      refine ml_if (S1 := (74, [(0, .ref a), (1, .ref me), (2, .int x2)], [.int u18, .ref me], M)) (S2 := (70, [(0, .ref a), (1, .ref me), (2, .int x2)], [.int u18, .ref me], M)) rfl rfl rfl (fun c_67 => ?_) (fun c_67 => ?_)
      · have c_67 : u22 = 0 := of_decide_eq_true c_67
        refine ml_st (S' := (75, [(0, .ref a), (1, .ref me), (2, .int x2)], [.int 1, .int u18, .ref me], M)) rfl rfl rfl ?_
        exact J_75 1
      · have c_67 : ¬ (u22 = 0) := of_decide_eq_false c_67
        refine ml_st (S' := (71, [(0, .ref a), (1, .ref me), (2, .int x2)], [.int 0, .int u18, .ref me], M)) rfl rfl rfl ?_
        refine ml_st (S' := (75, [(0, .ref a), (1, .ref me), (2, .int x2)], [.int 0, .int u18, .ref me], M)) rfl rfl rfl ?_
        exact J_75 0
    · have c_32 : ¬ (¬ u11 = 0) := of_decide_eq_false c_32
      refine ml_st (S' := (36, [(0, .ref a), (1, .ref me), (2, .int x2)], [.ref a], M)) rfl rfl rfl ?_
      refine tg_ref (S' := (39, [(0, .ref a), (1, .ref me), (2, .int x2)], [.ref vd], M)) rfl hS.1.1 hY0 (by decide) rfl rfl ?_
      refine ml_blk 2 (S' := (42, [(0, .ref a), (1, .ref me), (2, .int x2)], [.ref me, .int 23, .ref vd], M)) rfl ?_
      refine tg_int rfl hS.1.1 hY6 (by decide) rfl (fun u59 g60 => ?_)
      show ml _ _ _ (45, [(0, .ref a), (1, .ref me), (2, .int x2)], [.int u59, .int 23, .ref vd], M) _
      refine ml_call (a := [.ref vd, .int 23, .int u59]) (rest := []) rfl (okc_t rfl rfl rfl hS.1.1 hY4 (by decide)) rfl rfl (tw_Ve_wrong hS.1.1 hY4 (by omega)) (fun v61 M62 h63 => ?_)
      obtain ⟨rfl, h63⟩ := h63
      have hS65 := hS.tr h63 (by simp)
      show ml _ _ _ (48, [(0, .ref a), (1, .ref me), (2, .int x2)], [.int 0], M62) _
      exact ml_ret rfl (r_z (Or.inl rfl)) (⟨⟨_, rfl, Or.inl rfl⟩, hS65⟩)
  · have c_8 : ¬ (¬ u6 = 0) := of_decide_eq_false c_8
    refine ml_st (S' := (12, [(0, .ref a), (1, .ref me), (2, .int x2)], [.ref a], M)) rfl rfl rfl ?_
    refine tg_ref (S' := (15, [(0, .ref a), (1, .ref me), (2, .int x2)], [.ref vd], M)) rfl hS.1.1 hY0 (by decide) rfl rfl ?_
    refine ml_blk 2 (S' := (18, [(0, .ref a), (1, .ref me), (2, .int x2)], [.ref me, .int 24, .ref vd], M)) rfl ?_
    refine tg_int rfl hS.1.1 hY6 (by decide) rfl (fun u66 g67 => ?_)
    show ml _ _ _ (21, [(0, .ref a), (1, .ref me), (2, .int x2)], [.int u66, .int 24, .ref vd], M) _
    refine ml_blk 2 (S' := (23, [(0, .ref a), (1, .ref me), (2, .int x2)], [.int (u66 + 2), .int 24, .ref vd], M)) rfl ?_
    refine ml_call (a := [.ref vd, .int 24, .int (u66 + 2)]) (rest := []) rfl (okc_t rfl rfl rfl hS.1.1 hY4 (by decide)) rfl rfl (tw_Ve_wrong hS.1.1 hY4 (by omega)) (fun v68 M69 h70 => ?_)
    obtain ⟨rfl, h70⟩ := h70
    have hS72 := hS.tr h70 (by simp)
    show ml _ _ _ (26, [(0, .ref a), (1, .ref me), (2, .int x2)], [.int 0], M69) _
    exact ml_ret rfl (r_z (Or.inl rfl)) (⟨⟨_, rfl, Or.inl rfl⟩, hS72⟩)
set_option maxHeartbeats 2000000 in
theorem tw_Cl_codeIsDue {g : xe_G} {M : mi_H} {Y : yT} {a c b p vd ac da n me : Nat} {pp : List Nat}  (hW : WF g Y M) (hY0 : Y.1 a = some (2, [c, b, p, vd, ac])) (hY1 : Y.1 c = some (3, [b, da, n])) (hY2 : Y.1 b = some (1, [da, n])) (hY3 : Y.1 p = some (7, pp)) (hY4 : Y.1 vd = some (10, [])) (hY5 : Y.1 ac = some (0, [c, b, p, vd])) (hY6 : Y.1 me = some (6, [da, n])) {d : Nat} (hd : 3 ≤ d) : mt (mT g) d 54 [.ref a, .ref me] M (fZ g Y [vd] M) := by
  obtain ⟨d, rfl⟩ : ∃ e, d = e + 1 := ⟨d - 1, by omega⟩
  have hS : sf g Y [vd] M M := sf.rf hW
  refine mt_in (b := mb_54 g) rfl rfl ?_
  show ml (mT g) d (mb_54 g).2 (0, [(0, .ref a), (1, .ref me)], [], M) _
  refine ml_st (S' := (1, [(0, .ref a), (1, .ref me)], [.ref a], M)) rfl rfl rfl ?_
  refine tg_ref (S' := (4, [(0, .ref a), (1, .ref me)], [.ref p], M)) rfl hS.1.1 hY0 (by decide) rfl rfl ?_
  refine ml_st (S' := (5, [(0, .ref a), (1, .ref me)], [.ref me, .ref p], M)) rfl rfl rfl ?_
  refine tg_int rfl hS.1.1 hY6 (by decide) rfl (fun u1 g2 => ?_)
  show ml _ _ _ (8, [(0, .ref a), (1, .ref me)], [.int u1, .ref p], M) _
  refine ml_st (S' := (10, [(0, .ref a), (1, .ref me)], [.ref (g.2.1 13), .int u1, .ref p], M)) rfl rfl rfl ?_
  refine ml_call (a := [.ref p, .int u1, .ref (g.2.1 13)]) (rest := []) rfl (okc_t rfl rfl rfl hS.1.1 hY3 (by decide)) rfl rfl (tq_textIs (lk := 13) hS.1.1 hY3 (by decide) (by omega)) (fun v3 M4 h5 => ?_)
  obtain ⟨⟨x6, rfl, z7⟩, h5⟩ := h5
  rw [h5]
  show ml _ _ _ (13, [(0, .ref a), (1, .ref me)], [.int x6], M) _
  have J_31 : ∀ (s31_0 : Int32), ml (mT g) d (mb_54 g).2 (31, [(0, .ref a), (1, .ref me)], [.int s31_0], M) (fZ g Y [vd] M) := by
    intro s31_0
    refine ml_st (S' := (32, [(2, .int s31_0), (0, .ref a), (1, .ref me)], [], M)) rfl rfl rfl ?_
    refine ml_blk 2 (S' := (34, [(2, .int s31_0), (0, .ref a), (1, .ref me)], [.ref me, .int s31_0], M)) rfl ?_
    refine tg_vn rfl hS.1.1 hY6 (by decide) rfl (fun g10 => ?_) (fun b8 g10 h9 => ?_)
    · show ml _ _ _ (37, [(2, .int s31_0), (0, .ref a), (1, .ref me)], [.null, .int s31_0], M) _
      refine ml_st (S' := (44, [(2, .int s31_0), (0, .ref a), (1, .ref me)], [.int s31_0], M)) rfl rfl rfl ?_
      refine ml_st (S' := (45, [(0, .ref a), (1, .ref me)], [.int 0, .int s31_0], M)) rfl rfl rfl ?_
      refine ml_if2 (S1 := (64, [], [], M)) (S2 := (48, [(0, .ref a), (1, .ref me)], [], M)) rfl rfl rfl (fun c_45 => ?_) (fun c_45 => ?_)
      · have c_45 : s31_0 = 0 := of_decide_eq_true c_45
        refine ml_st (S' := (65, [], [.int 1], M)) rfl rfl rfl ?_
        refine ml_st (S' := (69, [], [.int 1], M)) rfl rfl rfl ?_
        exact ml_ret rfl (r_z (Or.inr rfl)) (⟨⟨_, rfl, Or.inr rfl⟩, hS⟩)
      · have c_45 : ¬ (s31_0 = 0) := of_decide_eq_false c_45
        refine ml_st (S' := (49, [(0, .ref a), (1, .ref me)], [.ref a], M)) rfl rfl rfl ?_
        refine tg_ref (S' := (52, [(0, .ref a), (1, .ref me)], [.ref vd], M)) rfl hS.1.1 hY0 (by decide) rfl rfl ?_
        refine ml_blk 2 (S' := (55, [(0, .ref a), (1, .ref me)], [.ref me, .int 27, .ref vd], M)) rfl ?_
        refine tg_int rfl hS.1.1 hY6 (by decide) rfl (fun u11 g12 => ?_)
        show ml _ _ _ (58, [(0, .ref a), (1, .ref me)], [.int u11, .int 27, .ref vd], M) _
        refine ml_call (a := [.ref vd, .int 27, .int u11]) (rest := []) rfl (okc_t rfl rfl rfl hS.1.1 hY4 (by decide)) rfl rfl (tw_Ve_wrong hS.1.1 hY4 (by omega)) (fun v13 M14 h15 => ?_)
        obtain ⟨rfl, h15⟩ := h15
        have hS17 := hS.tr h15 (by simp)
        show ml _ _ _ (61, [(0, .ref a), (1, .ref me)], [.int 0], M14) _
        refine ml_if (S1 := (68, [(0, .ref a), (1, .ref me)], [], M14)) (S2 := (64, [], [], M14)) rfl rfl rfl (fun c_61 => ?_) (fun c_61 => ?_)
        · have c_61 : 0 = 0 := of_decide_eq_true c_61
          refine ml_st (S' := (69, [], [.int 0], M14)) rfl rfl rfl ?_
          exact ml_ret rfl (r_z (Or.inl rfl)) (⟨⟨_, rfl, Or.inl rfl⟩, hS17⟩)
        · have c_61 : ¬ (0 = 0) := of_decide_eq_false c_61
          refine ml_st (S' := (65, [], [.int 1], M14)) rfl rfl rfl ?_
          refine ml_st (S' := (69, [], [.int 1], M14)) rfl rfl rfl ?_
          exact ml_ret rfl (r_z (Or.inr rfl)) (⟨⟨_, rfl, Or.inr rfl⟩, hS17⟩)
    · skip
      obtain ⟨p18, o19, h9⟩ := h9
      obtain ⟨⟨pp20, h21⟩, b22, h23⟩ := hS.1.1.lnk h9 (by decide)
      obtain ⟨da24, n25, h26⟩ := hS.1.1.lnk h23 (by decide)
      show ml _ _ _ (37, [(2, .int s31_0), (0, .ref a), (1, .ref me)], [.ref b8, .int s31_0], M) _
      refine ml_st (S' := (40, [(2, .int s31_0), (0, .ref a), (1, .ref me)], [.int s31_0], M)) rfl rfl rfl ?_
      refine ml_st (S' := (41, [(2, .int s31_0), (0, .ref a), (1, .ref me)], [.int 1, .int s31_0], M)) rfl rfl rfl ?_
      refine ml_st (S' := (45, [(0, .ref a), (1, .ref me)], [.int 1, .int s31_0], M)) rfl rfl rfl ?_
      refine ml_if2 (S1 := (64, [], [], M)) (S2 := (48, [(0, .ref a), (1, .ref me)], [], M)) rfl rfl rfl (fun c_45 => ?_) (fun c_45 => ?_)
      · have c_45 : s31_0 = 1 := of_decide_eq_true c_45
        refine ml_st (S' := (65, [], [.int 1], M)) rfl rfl rfl ?_
        refine ml_st (S' := (69, [], [.int 1], M)) rfl rfl rfl ?_
        exact ml_ret rfl (r_z (Or.inr rfl)) (⟨⟨_, rfl, Or.inr rfl⟩, hS⟩)
      · have c_45 : ¬ (s31_0 = 1) := of_decide_eq_false c_45
        refine ml_st (S' := (49, [(0, .ref a), (1, .ref me)], [.ref a], M)) rfl rfl rfl ?_
        refine tg_ref (S' := (52, [(0, .ref a), (1, .ref me)], [.ref vd], M)) rfl hS.1.1 hY0 (by decide) rfl rfl ?_
        refine ml_blk 2 (S' := (55, [(0, .ref a), (1, .ref me)], [.ref me, .int 27, .ref vd], M)) rfl ?_
        refine tg_int rfl hS.1.1 hY6 (by decide) rfl (fun u27 g28 => ?_)
        show ml _ _ _ (58, [(0, .ref a), (1, .ref me)], [.int u27, .int 27, .ref vd], M) _
        refine ml_call (a := [.ref vd, .int 27, .int u27]) (rest := []) rfl (okc_t rfl rfl rfl hS.1.1 hY4 (by decide)) rfl rfl (tw_Ve_wrong hS.1.1 hY4 (by omega)) (fun v29 M30 h31 => ?_)
        obtain ⟨rfl, h31⟩ := h31
        have hS33 := hS.tr h31 (by simp)
        show ml _ _ _ (61, [(0, .ref a), (1, .ref me)], [.int 0], M30) _
        refine ml_if (S1 := (68, [(0, .ref a), (1, .ref me)], [], M30)) (S2 := (64, [], [], M30)) rfl rfl rfl (fun c_61 => ?_) (fun c_61 => ?_)
        · have c_61 : 0 = 0 := of_decide_eq_true c_61
          refine ml_st (S' := (69, [], [.int 0], M30)) rfl rfl rfl ?_
          exact ml_ret rfl (r_z (Or.inl rfl)) (⟨⟨_, rfl, Or.inl rfl⟩, hS33⟩)
        · have c_61 : ¬ (0 = 0) := of_decide_eq_false c_61
          refine ml_st (S' := (65, [], [.int 1], M30)) rfl rfl rfl ?_
          refine ml_st (S' := (69, [], [.int 1], M30)) rfl rfl rfl ?_
          exact ml_ret rfl (r_z (Or.inr rfl)) (⟨⟨_, rfl, Or.inr rfl⟩, hS33⟩)
  have J_26 : ml (mT g) d (mb_54 g).2 (26, [(0, .ref a), (1, .ref me)], [], M) (fZ g Y [vd] M) := by
    refine ml_st (S' := (27, [(0, .ref a), (1, .ref me)], [.int 1], M)) rfl rfl rfl ?_
    refine ml_st (S' := (31, [(0, .ref a), (1, .ref me)], [.int 1], M)) rfl rfl rfl ?_
    exact J_31 1
  refine ml_if (S1 := (26, [(0, .ref a), (1, .ref me)], [], M)) (S2 := (16, [(0, .ref a), (1, .ref me)], [], M)) rfl rfl rfl (fun c_13 => ?_) (fun c_13 => ?_)
  · have c_13 : ¬ x6 = 0 := of_decide_eq_true c_13
    exact J_26 
  · have c_13 : ¬ (¬ x6 = 0) := of_decide_eq_false c_13
    refine ml_blk 2 (S' := (20, [(0, .ref a), (1, .ref me)], [.int 1280, .ref me], M)) rfl ?_
    refine ml_call (a := [.ref me, .int 1280]) (rest := []) rfl (okc_t rfl rfl rfl hS.1.1 hY6 (by decide)) rfl rfl (tw_Me_has hS.1.1 hY6 (by omega)) (fun v34 M35 h36 => ?_)
    obtain ⟨⟨u37, rfl, z38⟩, h36⟩ := h36
    rw [h36]
    show ml _ _ _ (23, [(0, .ref a), (1, .ref me)], [.int u37], M) _
    refine ml_if (S1 := (30, [(0, .ref a), (1, .ref me)], [], M)) (S2 := (26, [(0, .ref a), (1, .ref me)], [], M)) rfl rfl rfl (fun c_23 => ?_) (fun c_23 => ?_)
    · have c_23 : ¬ u37 = 0 := of_decide_eq_true c_23
      refine ml_st (S' := (31, [(0, .ref a), (1, .ref me)], [.int 0], M)) rfl rfl rfl ?_
      exact J_31 0
    · have c_23 : ¬ (¬ u37 = 0) := of_decide_eq_false c_23
      exact J_26 
