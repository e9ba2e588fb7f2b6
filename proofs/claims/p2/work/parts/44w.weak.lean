set_option maxHeartbeats 2000000 in
theorem tw_Cl_codeIsDue {g : xe_G} {M : mi_H} {Y : yT} {a c b p vd ac da n me : Nat} {pp : List Nat}  (hW : WF g Y M) (hY0 : Y.1 a = some (2, [c, b, p, vd, ac])) (hY1 : Y.1 c = some (3, [b, da, n])) (hY2 : Y.1 b = some (1, [da, n])) (hY3 : Y.1 p = some (7, pp)) (hY4 : Y.1 vd = some (10, [])) (hY5 : Y.1 ac = some (0, [c, b, p, vd])) (hY6 : Y.1 me = some (6, [da, n])) {d : Nat} (hd : 3 ≤ d) : mt (mT g) d 54 [.ref a, .ref me] M (qZ g Y M) := by
  obtain ⟨d, rfl⟩ : ∃ e, d = e + 1 := ⟨d - 1, by omega⟩
  have hS : st g Y M M := st.rf hW
  refine mt_in (b := mb_54 g) rfl rfl ?_
  show ml (mT g) d (mb_54 g).2 (0, [(0, .ref a), (1, .ref me)], [], M) _
  refine ml_st (S' := (1, [(0, .ref a), (1, .ref me)], [.ref a], M)) rfl rfl rfl ?_
  refine tg_ref (S' := (4, [(0, .ref a), (1, .ref me)], [.ref p], M)) rfl hS.1 hY0 (by decide) rfl rfl ?_
  refine ml_st (S' := (5, [(0, .ref a), (1, .ref me)], [.ref me, .ref p], M)) rfl rfl rfl ?_
  refine tg_int rfl hS.1 hY6 (by decide) rfl (fun u1 g2 => ?_)
  show ml _ _ _ (8, [(0, .ref a), (1, .ref me)], [.int u1, .ref p], M) _
  refine ml_st (S' := (10, [(0, .ref a), (1, .ref me)], [.ref (g.2.1 13), .int u1, .ref p], M)) rfl rfl rfl ?_
  refine ml_call (a := [.ref p, .int u1, .ref (g.2.1 13)]) (rest := []) rfl (okc_t rfl rfl rfl hS.1 hY3 (by decide)) rfl rfl (tq_textIs (lk := 13) hS.1 hY3 (by decide) (by omega)) (fun v3 M4 h5 => ?_)
  obtain ⟨⟨x6, rfl, z7⟩, h5⟩ := h5
  rw [h5]
  show ml _ _ _ (13, [(0, .ref a), (1, .ref me)], [.int x6], M) _
  have J_31 : ∀ (s31_0 : Int32), ml (mT g) d (mb_54 g).2 (31, [(0, .ref a), (1, .ref me)], [.int s31_0], M) (qZ g Y M) := by
    intro s31_0
    refine ml_st (S' := (32, [(2, .int s31_0), (0, .ref a), (1, .ref me)], [], M)) rfl rfl rfl ?_
    refine ml_blk 2 (S' := (34, [(2, .int s31_0), (0, .ref a), (1, .ref me)], [.ref me, .int s31_0], M)) rfl ?_
    refine tg_vn rfl hS.1 hY6 (by decide) rfl (fun g10 => ?_) (fun b8 g10 h9 => ?_)
    · show ml _ _ _ (37, [(2, .int s31_0), (0, .ref a), (1, .ref me)], [.null, .int s31_0], M) _
      refine ml_st (S' := (44, [(2, .int s31_0), (0, .ref a), (1, .ref me)], [.int s31_0], M)) rfl rfl rfl ?_
      refine ml_st (S' := (45, [(0, .ref a), (1, .ref me)], [.int 0, .int s31_0], M)) rfl rfl rfl ?_
      refine ml_if2 (S1 := (64, [], [], M)) (S2 := (48, [(0, .ref a), (1, .ref me)], [], M)) rfl rfl rfl (fun c_45 => ?_) (fun c_45 => ?_)
      · have c_45 : s31_0 = 0 := of_decide_eq_true c_45
        refine ml_st (S' := (65, [], [.int 1], M)) rfl rfl rfl ?_
        refine ml_st (S' := (69, [], [.int 1], M)) rfl rfl rfl ?_
        exact ml_ret rfl (r_z (Or.inr rfl)) (⟨⟨_, rfl, Or.inr rfl⟩, hS⟩)
      · have c_45 : ¬ (s31_0 = 0) := of_decide_eq_false c_45
        refine ml_st (S' := (49, [(0, .ref a), (1, .ref me)], [.ref a], M)) rfl rfl rfl ?_
        refine tg_ref (S' := (52, [(0, .ref a), (1, .ref me)], [.ref vd], M)) rfl hS.1 hY0 (by decide) rfl rfl ?_
        refine ml_blk 2 (S' := (55, [(0, .ref a), (1, .ref me)], [.ref me, .int 27, .ref vd], M)) rfl ?_
        refine tg_int rfl hS.1 hY6 (by decide) rfl (fun u11 g12 => ?_)
        show ml _ _ _ (58, [(0, .ref a), (1, .ref me)], [.int u11, .int 27, .ref vd], M) _
        refine ml_call (a := [.ref vd, .int 27, .int u11]) (rest := []) rfl (okc_t rfl rfl rfl hS.1 hY4 (by decide)) rfl rfl (tw_Ve_wrong hS.1 hY4 (by omega)) (fun v13 M14 h15 => ?_)
        obtain ⟨rfl, h15⟩ := h15
        have hS17 := hS.tr h15.1
        show ml _ _ _ (61, [(0, .ref a), (1, .ref me)], [.int 0], M14) _
        refine ml_if (S1 := (68, [(0, .ref a), (1, .ref me)], [], M14)) (S2 := (64, [], [], M14)) rfl rfl rfl (fun c_61 => ?_) (fun c_61 => ?_)
        · have c_61 : 0 = 0 := of_decide_eq_true c_61
          refine ml_st (S' := (69, [], [.int 0], M14)) rfl rfl rfl ?_
          exact ml_ret rfl (r_z (Or.inl rfl)) (⟨⟨_, rfl, Or.inl rfl⟩, hS17⟩)
        · have c_61 : ¬ (0 = 0) := of_decide_eq_false c_61
          refine ml_st (S' := (65, [], [.int 1], M14)) rfl rfl rfl ?_
          refine ml_st (S' := (69, [], [.int 1], M14)) rfl rfl rfl ?_
          exact ml_ret rfl (r_z (Or.inr rfl)) (⟨⟨_, rfl, Or.inr rfl⟩, hS17⟩)
    · skip
      obtain ⟨p18, o19, h9⟩ := h9
      obtain ⟨⟨pp20, h21⟩, b22, h23⟩ := hS.1.lnk h9 (by decide)
      obtain ⟨da24, n25, h26⟩ := hS.1.lnk h23 (by decide)
      show ml _ _ _ (37, [(2, .int s31_0), (0, .ref a), (1, .ref me)], [.ref b8, .int s31_0], M) _
      refine ml_st (S' := (40, [(2, .int s31_0), (0, .ref a), (1, .ref me)], [.int s31_0], M)) rfl rfl rfl ?_
      refine ml_st (S' := (41, [(2, .int s31_0), (0, .ref a), (1, .ref me)], [.int 1, .int s31_0], M)) rfl rfl rfl ?_
      refine ml_st (S' := (45, [(0, .ref a), (1, .ref me)], [.int 1, .int s31_0], M)) rfl rfl rfl ?_
      refine ml_if2 (S1 := (64, [], [], M)) (S2 := (48, [(0, .ref a), (1, .ref me)], [], M)) rfl rfl rfl (fun c_45 => ?_) (fun c_45 => ?_)
      · have c_45 : s31_0 = 1 := of_decide_eq_true c_45
        refine ml_st (S' := (65, [], [.int 1], M)) rfl rfl rfl ?_
        refine ml_st (S' := (69, [], [.int 1], M)) rfl rfl rfl ?_
        exact ml_ret rfl (r_z (Or.inr rfl)) (⟨⟨_, rfl, Or.inr rfl⟩, hS⟩)
      · have c_45 : ¬ (s31_0 = 1) := of_decide_eq_false c_45
        refine ml_st (S' := (49, [(0, .ref a), (1, .ref me)], [.ref a], M)) rfl rfl rfl ?_
        refine tg_ref (S' := (52, [(0, .ref a), (1, .ref me)], [.ref vd], M)) rfl hS.1 hY0 (by decide) rfl rfl ?_
        refine ml_blk 2 (S' := (55, [(0, .ref a), (1, .ref me)], [.ref me, .int 27, .ref vd], M)) rfl ?_
        refine tg_int rfl hS.1 hY6 (by decide) rfl (fun u27 g28 => ?_)
        show ml _ _ _ (58, [(0, .ref a), (1, .ref me)], [.int u27, .int 27, .ref vd], M) _
        refine ml_call (a := [.ref vd, .int 27, .int u27]) (rest := []) rfl (okc_t rfl rfl rfl hS.1 hY4 (by decide)) rfl rfl (tw_Ve_wrong hS.1 hY4 (by omega)) (fun v29 M30 h31 => ?_)
        obtain ⟨rfl, h31⟩ := h31
        have hS33 := hS.tr h31.1
        show ml _ _ _ (61, [(0, .ref a), (1, .ref me)], [.int 0], M30) _
        refine ml_if (S1 := (68, [(0, .ref a), (1, .ref me)], [], M30)) (S2 := (64, [], [], M30)) rfl rfl rfl (fun c_61 => ?_) (fun c_61 => ?_)
        · have c_61 : 0 = 0 := of_decide_eq_true c_61
          refine ml_st (S' := (69, [], [.int 0], M30)) rfl rfl rfl ?_
          exact ml_ret rfl (r_z (Or.inl rfl)) (⟨⟨_, rfl, Or.inl rfl⟩, hS33⟩)
        · have c_61 : ¬ (0 = 0) := of_decide_eq_false c_61
          refine ml_st (S' := (65, [], [.int 1], M30)) rfl rfl rfl ?_
          refine ml_st (S' := (69, [], [.int 1], M30)) rfl rfl rfl ?_
          exact ml_ret rfl (r_z (Or.inr rfl)) (⟨⟨_, rfl, Or.inr rfl⟩, hS33⟩)
  have J_26 : ml (mT g) d (mb_54 g).2 (26, [(0, .ref a), (1, .ref me)], [], M) (qZ g Y M) := by
    refine ml_st (S' := (27, [(0, .ref a), (1, .ref me)], [.int 1], M)) rfl rfl rfl ?_
    refine ml_st (S' := (31, [(0, .ref a), (1, .ref me)], [.int 1], M)) rfl rfl rfl ?_
    exact J_31 1
  refine ml_if (S1 := (26, [(0, .ref a), (1, .ref me)], [], M)) (S2 := (16, [(0, .ref a), (1, .ref me)], [], M)) rfl rfl rfl (fun c_13 => ?_) (fun c_13 => ?_)
  · have c_13 : ¬ x6 = 0 := of_decide_eq_true c_13
    exact J_26 
  · have c_13 : ¬ (¬ x6 = 0) := of_decide_eq_false c_13
    refine ml_blk 2 (S' := (20, [(0, .ref a), (1, .ref me)], [.int 1280, .ref me], M)) rfl ?_
    refine ml_call (a := [.ref me, .int 1280]) (rest := []) rfl (okc_t rfl rfl rfl hS.1 hY6 (by decide)) rfl rfl (tw_Me_has hS.1 hY6 (by omega)) (fun v34 M35 h36 => ?_)
    obtain ⟨⟨u37, rfl, z38⟩, h36⟩ := h36
    rw [h36]
    show ml _ _ _ (23, [(0, .ref a), (1, .ref me)], [.int u37], M) _
    refine ml_if (S1 := (30, [(0, .ref a), (1, .ref me)], [], M)) (S2 := (26, [(0, .ref a), (1, .ref me)], [], M)) rfl rfl rfl (fun c_23 => ?_) (fun c_23 => ?_)
    · have c_23 : ¬ u37 = 0 := of_decide_eq_true c_23
      refine ml_st (S' := (31, [(0, .ref a), (1, .ref me)], [.int 0], M)) rfl rfl rfl ?_
      exact J_31 0
    · have c_23 : ¬ (¬ u37 = 0) := of_decide_eq_false c_23
      exact J_26 
