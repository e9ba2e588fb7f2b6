set_option maxHeartbeats 2000000 in
theorem tw_Cl_fieldHolds {g : xe_G} {M : mi_H} {Y : yT} {a c b p vd ac da n me : Nat} {pp : List Nat} {x2 : Int32}  (hW : WF g Y M) (hY0 : Y.1 a = some (2, [c, b, p, vd, ac])) (hY1 : Y.1 c = some (3, [b, da, n])) (hY2 : Y.1 b = some (1, [da, n])) (hY3 : Y.1 p = some (7, pp)) (hY4 : Y.1 vd = some (10, [])) (hY5 : Y.1 ac = some (0, [c, b, p, vd])) (hY6 : Y.1 me = some (6, [da, n])) {d : Nat} (hd : 4 ≤ d) : mt (mT g) d 56 [.ref a, .ref me, .int x2] M (qZ g Y M) := by
  obtain ⟨d, rfl⟩ : ∃ e, d = e + 1 := ⟨d - 1, by omega⟩
  have hS : st g Y M M := st.rf hW
  refine mt_in (b := mb_56 g) rfl rfl ?_
  show ml (mT g) d (mb_56 g).2 (0, [(0, .ref a), (1, .ref me), (2, .int x2)], [], M) _
  refine ml_blk 2 (S' := (2, [(0, .ref a), (1, .ref me), (2, .int x2)], [.ref me, .ref a], M)) rfl ?_
  refine tg_int rfl hS.1 hY6 (by decide) rfl (fun u1 g2 => ?_)
  show ml _ _ _ (5, [(0, .ref a), (1, .ref me), (2, .int x2)], [.int u1, .ref a], M) _
  refine ml_call (a := [.ref a, .int u1]) (rest := []) rfl (okc_t rfl rfl rfl hS.1 hY0 (by decide)) rfl rfl (tw_Cl_fieldFlagsHold hS.1 hY0 hY1 hY2 hY3 hY4 hY5 (by omega)) (fun v3 M4 h5 => ?_)
  obtain ⟨⟨u6, rfl, z7⟩, h5⟩ := h5
  rw [h5]
  show ml _ _ _ (8, [(0, .ref a), (1, .ref me), (2, .int x2)], [.int u6], M) _
  refine ml_if (S1 := (25, [(0, .ref a), (1, .ref me), (2, .int x2)], [], M)) (S2 := (11, [(0, .ref a), (1, .ref me), (2, .int x2)], [], M)) rfl rfl rfl (fun c_8 => ?_) (fun c_8 => ?_)
  · have c_8 : ¬ u6 = 0 := of_decide_eq_true c_8
    refine ml_st (S' := (26, [(0, .ref a), (1, .ref me), (2, .int x2)], [.ref a], M)) rfl rfl rfl ?_
    refine tg_ref (S' := (29, [(0, .ref a), (1, .ref me), (2, .int x2)], [.ref p], M)) rfl hS.1 hY0 (by decide) rfl rfl ?_
    refine ml_st (S' := (30, [(0, .ref a), (1, .ref me), (2, .int x2)], [.ref me, .ref p], M)) rfl rfl rfl ?_
    refine tg_int rfl hS.1 hY6 (by decide) rfl (fun u8 g9 => ?_)
    show ml _ _ _ (33, [(0, .ref a), (1, .ref me), (2, .int x2)], [.int u8, .ref p], M) _
    refine ml_call (a := [.ref p, .int u8]) (rest := []) rfl (okc_t rfl rfl rfl hS.1 hY3 (by decide)) rfl rfl (tq_isUnqualifiedName hS.1 hY3 (by omega)) (fun v10 M11 h12 => ?_)
    obtain ⟨⟨u13, rfl, z14⟩, h12⟩ := h12
    rw [h12]
    show ml _ _ _ (36, [(0, .ref a), (1, .ref me), (2, .int x2)], [.int u13], M) _
    refine ml_if (S1 := (55, [(0, .ref a), (1, .ref me), (2, .int x2)], [], M)) (S2 := (39, [(0, .ref a), (1, .ref me), (2, .int x2)], [], M)) rfl rfl rfl (fun c_36 => ?_) (fun c_36 => ?_)
    · have c_36 : ¬ u13 = 0 := of_decide_eq_true c_36
      refine ml_st (S' := (56, [(0, .ref a), (1, .ref me), (2, .int x2)], [.ref a], M)) rfl rfl rfl ?_
      refine tg_ref (S' := (59, [(0, .ref a), (1, .ref me), (2, .int x2)], [.ref p], M)) rfl hS.1 hY0 (by decide) rfl rfl ?_
      refine ml_st (S' := (60, [(0, .ref a), (1, .ref me), (2, .int x2)], [.ref me, .ref p], M)) rfl rfl rfl ?_
      refine tg_int rfl hS.1 hY6 (by decide) rfl (fun u15 g16 => ?_)
      show ml _ _ _ (63, [(0, .ref a), (1, .ref me), (2, .int x2)], [.int u15, .ref p], M) _
      refine ml_call (a := [.ref p, .int u15]) (rest := []) rfl (okc_t rfl rfl rfl hS.1 hY3 (by decide)) rfl rfl (tq_isFieldDescriptor hS.1 hY3 (by omega)) (fun v17 M18 h19 => ?_)
      obtain ⟨⟨u20, rfl, z21⟩, h19⟩ := h19
      rw [h19]
      show ml _ _ _ (66, [(0, .ref a), (1, .ref me), (2, .int x2)], [.int u20], M) _
      refine ml_if (S1 := (85, [(0, .ref a), (1, .ref me), (2, .int x2)], [], M)) (S2 := (69, [(0, .ref a), (1, .ref me), (2, .int x2)], [], M)) rfl rfl rfl (fun c_66 => ?_) (fun c_66 => ?_)
      · have c_66 : ¬ u20 = 0 := of_decide_eq_true c_66
        refine ml_st (S' := (86, [(0, .ref a), (1, .ref me), (2, .int x2)], [.ref a], M)) rfl rfl rfl ?_
        refine tg_ref (S' := (89, [(0, .ref a), (1, .ref me), (2, .int x2)], [.ref p], M)) rfl hS.1 hY0 (by decide) rfl rfl ?_
        refine ml_st (S' := (90, [(0, .ref a), (1, .ref me), (2, .int x2)], [.ref a, .ref p], M)) rfl rfl rfl ?_
        refine tg_ref (S' := (93, [(0, .ref a), (1, .ref me), (2, .int x2)], [.ref c, .ref p], M)) rfl hS.1 hY0 (by decide) rfl rfl ?_
        refine tg_vo rfl hS.1 hY1 (by decide) rfl (fun b22 g24 h23 => ?_)
        obtain ⟨k25, h23⟩ := h23
        show ml _ _ _ (96, [(0, .ref a), (1, .ref me), (2, .int x2)], [.ref b22, .ref p], M) _
        refine ml_blk 2 (S' := (98, [(0, .ref a), (1, .ref me), (2, .int x2)], [.ref me, .int x2, .ref b22, .ref p], M)) rfl ?_
        refine ml_get (S' := (101, [(0, .ref a), (1, .ref me), (2, .int x2)], [.int u8, .int x2, .ref b22, .ref p], M)) rfl g9 rfl ?_
        refine ml_st (S' := (102, [(0, .ref a), (1, .ref me), (2, .int x2)], [.ref me, .int u8, .int x2, .ref b22, .ref p], M)) rfl rfl rfl ?_
        refine ml_get (S' := (105, [(0, .ref a), (1, .ref me), (2, .int x2)], [.int u15, .int u8, .int x2, .ref b22, .ref p], M)) rfl g16 rfl ?_
        refine ml_call (a := [.ref p, .ref b22, .int x2, .int u8, .int u15]) (rest := []) rfl (okc_t rfl rfl rfl hS.1 hY3 (by decide)) rfl rfl (tw_Po_sameMember hS.1 hY3 h23 (by omega)) (fun v26 M27 h28 => ?_)
        obtain ⟨⟨u29, rfl⟩, h28⟩ := h28
        rw [h28]
        show ml _ _ _ (108, [(0, .ref a), (1, .ref me), (2, .int x2)], [.int u29], M) _
        refine ml_if (S1 := (125, [(0, .ref a), (1, .ref me), (2, .int x2)], [], M)) (S2 := (111, [(0, .ref a), (1, .ref me), (2, .int x2)], [], M)) rfl rfl rfl (fun c_108 => ?_) (fun c_108 => ?_)
        · have c_108 : u29 < 0 := of_decide_eq_true c_108
          refine ml_st (S' := (126, [(0, .ref a), (1, .ref me), (2, .int x2)], [.int 1], M)) rfl rfl rfl ?_
          exact ml_ret rfl (r_z (Or.inr rfl)) (⟨⟨_, rfl, Or.inr rfl⟩, hS⟩)
        · have c_108 : ¬ (u29 < 0) := of_decide_eq_false c_108
          refine ml_st (S' := (112, [(0, .ref a), (1, .ref me), (2, .int x2)], [.ref a], M)) rfl rfl rfl ?_
          refine tg_ref (S' := (115, [(0, .ref a), (1, .ref me), (2, .int x2)], [.ref vd], M)) rfl hS.1 hY0 (by decide) rfl rfl ?_
          refine ml_blk 2 (S' := (118, [(0, .ref a), (1, .ref me), (2, .int x2)], [.ref me, .int 22, .ref vd], M)) rfl ?_
          refine tg_int rfl hS.1 hY6 (by decide) rfl (fun u30 g31 => ?_)
          show ml _ _ _ (121, [(0, .ref a), (1, .ref me), (2, .int x2)], [.int u30, .int 22, .ref vd], M) _
          refine ml_call (a := [.ref vd, .int 22, .int u30]) (rest := []) rfl (okc_t rfl rfl rfl hS.1 hY4 (by decide)) rfl rfl (tw_Ve_wrong hS.1 hY4 (by omega)) (fun v32 M33 h34 => ?_)
          obtain ⟨rfl, h34⟩ := h34
          have hS36 := hS.tr h34.1
          show ml _ _ _ (124, [(0, .ref a), (1, .ref me), (2, .int x2)], [.int 0], M33) _
          exact ml_ret rfl (r_z (Or.inl rfl)) (⟨⟨_, rfl, Or.inl rfl⟩, hS36⟩)
      · have c_66 : ¬ (¬ u20 = 0) := of_decide_eq_false c_66
        refine ml_st (S' := (70, [(0, .ref a), (1, .ref me), (2, .int x2)], [.ref a], M)) rfl rfl rfl ?_
        refine tg_ref (S' := (73, [(0, .ref a), (1, .ref me), (2, .int x2)], [.ref vd], M)) rfl hS.1 hY0 (by decide) rfl rfl ?_
        refine ml_blk 2 (S' := (76, [(0, .ref a), (1, .ref me), (2, .int x2)], [.ref me, .int 21, .ref vd], M)) rfl ?_
        refine tg_int rfl hS.1 hY6 (by decide) rfl (fun u37 g38 => ?_)
        show ml _ _ _ (79, [(0, .ref a), (1, .ref me), (2, .int x2)], [.int u37, .int 21, .ref vd], M) _
        refine ml_blk 2 (S' := (81, [(0, .ref a), (1, .ref me), (2, .int x2)], [.int (u37 + 4), .int 21, .ref vd], M)) rfl ?_
        refine ml_call (a := [.ref vd, .int 21, .int (u37 + 4)]) (rest := []) rfl (okc_t rfl rfl rfl hS.1 hY4 (by decide)) rfl rfl (tw_Ve_wrong hS.1 hY4 (by omega)) (fun v39 M40 h41 => ?_)
        obtain ⟨rfl, h41⟩ := h41
        have hS43 := hS.tr h41.1
        show ml _ _ _ (84, [(0, .ref a), (1, .ref me), (2, .int x2)], [.int 0], M40) _
        exact ml_ret rfl (r_z (Or.inl rfl)) (⟨⟨_, rfl, Or.inl rfl⟩, hS43⟩)
    · have c_36 : ¬ (¬ u13 = 0) := of_decide_eq_false c_36
      refine ml_st (S' := (40, [(0, .ref a), (1, .ref me), (2, .int x2)], [.ref a], M)) rfl rfl rfl ?_
      refine tg_ref (S' := (43, [(0, .ref a), (1, .ref me), (2, .int x2)], [.ref vd], M)) rfl hS.1 hY0 (by decide) rfl rfl ?_
      refine ml_blk 2 (S' := (46, [(0, .ref a), (1, .ref me), (2, .int x2)], [.ref me, .int 20, .ref vd], M)) rfl ?_
      refine tg_int rfl hS.1 hY6 (by decide) rfl (fun u44 g45 => ?_)
      show ml _ _ _ (49, [(0, .ref a), (1, .ref me), (2, .int x2)], [.int u44, .int 20, .ref vd], M) _
      refine ml_blk 2 (S' := (51, [(0, .ref a), (1, .ref me), (2, .int x2)], [.int (u44 + 2), .int 20, .ref vd], M)) rfl ?_
      refine ml_call (a := [.ref vd, .int 20, .int (u44 + 2)]) (rest := []) rfl (okc_t rfl rfl rfl hS.1 hY4 (by decide)) rfl rfl (tw_Ve_wrong hS.1 hY4 (by omega)) (fun v46 M47 h48 => ?_)
      obtain ⟨rfl, h48⟩ := h48
      have hS50 := hS.tr h48.1
      show ml _ _ _ (54, [(0, .ref a), (1, .ref me), (2, .int x2)], [.int 0], M47) _
      exact ml_ret rfl (r_z (Or.inl rfl)) (⟨⟨_, rfl, Or.inl rfl⟩, hS50⟩)
  · have c_8 : ¬ (¬ u6 = 0) := of_decide_eq_false c_8
    refine ml_st (S' := (12, [(0, .ref a), (1, .ref me), (2, .int x2)], [.ref a], M)) rfl rfl rfl ?_
    refine tg_ref (S' := (15, [(0, .ref a), (1, .ref me), (2, .int x2)], [.ref vd], M)) rfl hS.1 hY0 (by decide) rfl rfl ?_
    refine ml_blk 2 (S' := (18, [(0, .ref a), (1, .ref me), (2, .int x2)], [.ref me, .int 19, .ref vd], M)) rfl ?_
    refine tg_int rfl hS.1 hY6 (by decide) rfl (fun u51 g52 => ?_)
    show ml _ _ _ (21, [(0, .ref a), (1, .ref me), (2, .int x2)], [.int u51, .int 19, .ref vd], M) _
    refine ml_call (a := [.ref vd, .int 19, .int u51]) (rest := []) rfl (okc_t rfl rfl rfl hS.1 hY4 (by decide)) rfl rfl (tw_Ve_wrong hS.1 hY4 (by omega)) (fun v53 M54 h55 => ?_)
    obtain ⟨rfl, h55⟩ := h55
    have hS57 := hS.tr h55.1
    show ml _ _ _ (24, [(0, .ref a), (1, .ref me), (2, .int x2)], [.int 0], M54) _
    exact ml_ret rfl (r_z (Or.inl rfl)) (⟨⟨_, rfl, Or.inl rfl⟩, hS57⟩)
