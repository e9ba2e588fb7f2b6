set_option maxHeartbeats 2000000 in
theorem tw_Cl_methodNameHolds {g : xe_G} {M : mi_H} {Y : yT} {a c b p vd ac da n : Nat} {pp : List Nat} {x1 : Int32}  (hW : WF g Y M) (hY0 : Y.1 a = some (2, [c, b, p, vd, ac])) (hY1 : Y.1 c = some (3, [b, da, n])) (hY2 : Y.1 b = some (1, [da, n])) (hY3 : Y.1 p = some (7, pp)) (hY4 : Y.1 vd = some (10, [])) (hY5 : Y.1 ac = some (0, [c, b, p, vd])) {d : Nat} (hd : 4 ≤ d) : mt (mT g) d 66 [.ref a, .int x1] M (pZ M) := by
  obtain ⟨d, rfl⟩ : ∃ e, d = e + 1 := ⟨d - 1, by omega⟩
  have hS : st g Y M M := st.rf hW
  refine mt_in (b := mb_66 g) rfl rfl ?_
  show ml (mT g) d (mb_66 g).2 (0, [(0, .ref a), (1, .int x1)], [], M) _
  refine ml_st (S' := (1, [(0, .ref a), (1, .int x1)], [.ref a], M)) rfl rfl rfl ?_
  refine tg_ref (S' := (4, [(0, .ref a), (1, .int x1)], [.ref p], M)) rfl hS.1 hY0 (by decide) rfl rfl ?_
  refine ml_blk 2 (S' := (7, [(0, .ref a), (1, .int x1)], [.ref (g.2.1 12), .int x1, .ref p], M)) rfl ?_
  refine ml_call (a := [.ref p, .int x1, .ref (g.2.1 12)]) (rest := []) rfl (okc_t rfl rfl rfl hS.1 hY3 (by decide)) rfl rfl (tq_textIs (lk := 12) hS.1 hY3 (by decide) (by omega)) (fun v1 M2 h3 => ?_)
  obtain ⟨⟨x4, rfl, z5⟩, h3⟩ := h3
  rw [h3]
  show ml _ _ _ (10, [(0, .ref a), (1, .int x1)], [.int x4], M) _
  refine ml_if (S1 := (32, [(0, .ref a), (1, .int x1)], [], M)) (S2 := (13, [(0, .ref a), (1, .int x1)], [], M)) rfl rfl rfl (fun c_10 => ?_) (fun c_10 => ?_)
  · have c_10 : x4 = 0 := of_decide_eq_true c_10
    refine ml_st (S' := (33, [(0, .ref a), (1, .int x1)], [.ref a], M)) rfl rfl rfl ?_
    refine tg_ref (S' := (36, [(0, .ref a), (1, .int x1)], [.ref p], M)) rfl hS.1 hY0 (by decide) rfl rfl ?_
    refine ml_blk 2 (S' := (39, [(0, .ref a), (1, .int x1)], [.ref (g.2.1 13), .int x1, .ref p], M)) rfl ?_
    refine ml_call (a := [.ref p, .int x1, .ref (g.2.1 13)]) (rest := []) rfl (okc_t rfl rfl rfl hS.1 hY3 (by decide)) rfl rfl (tq_textIs (lk := 13) hS.1 hY3 (by decide) (by omega)) (fun v6 M7 h8 => ?_)
    obtain ⟨⟨x9, rfl, z10⟩, h8⟩ := h8
    rw [h8]
    show ml _ _ _ (42, [(0, .ref a), (1, .int x1)], [.int x9], M) _
    refine ml_if (S1 := (67, [], [], M)) (S2 := (45, [(0, .ref a), (1, .int x1)], [], M)) rfl rfl rfl (fun c_42 => ?_) (fun c_42 => ?_)
    · have c_42 : ¬ x9 = 0 := of_decide_eq_true c_42
      refine ml_st (S' := (68, [], [.int 1], M)) rfl rfl rfl ?_
      refine ml_st (S' := (72, [], [.int 1], M)) rfl rfl rfl ?_
      exact ml_ret rfl (r_z (Or.inr rfl)) (⟨⟨_, rfl, Or.inr rfl⟩, rfl⟩)
    · have c_42 : ¬ (¬ x9 = 0) := of_decide_eq_false c_42
      refine ml_st (S' := (46, [(0, .ref a), (1, .int x1)], [.ref a], M)) rfl rfl rfl ?_
      refine tg_ref (S' := (49, [(0, .ref a), (1, .int x1)], [.ref p], M)) rfl hS.1 hY0 (by decide) rfl rfl ?_
      refine ml_st (S' := (50, [(0, .ref a), (1, .int x1)], [.int x1, .ref p], M)) rfl rfl rfl ?_
      refine ml_call (a := [.ref p, .int x1]) (rest := []) rfl (okc_t rfl rfl rfl hS.1 hY3 (by decide)) rfl rfl (tq_isUnqualifiedName hS.1 hY3 (by omega)) (fun v11 M12 h13 => ?_)
      obtain ⟨⟨u14, rfl, z15⟩, h13⟩ := h13
      rw [h13]
      show ml _ _ _ (53, [(0, .ref a), (1, .int x1)], [.int u14], M) _
      refine ml_if (S1 := (71, [], [], M)) (S2 := (56, [(0, .ref a), (1, .int x1)], [], M)) rfl rfl rfl (fun c_53 => ?_) (fun c_53 => ?_)
      · have c_53 : u14 = 0 := of_decide_eq_true c_53
        refine ml_st (S' := (72, [], [.int 0], M)) rfl rfl rfl ?_
        exact ml_ret rfl (r_z (Or.inl rfl)) (⟨⟨_, rfl, Or.inl rfl⟩, rfl⟩)
      · have c_53 : ¬ (u14 = 0) := of_decide_eq_false c_53
        refine ml_st (S' := (57, [(0, .ref a), (1, .int x1)], [.ref a], M)) rfl rfl rfl ?_
        refine tg_ref (S' := (60, [(0, .ref a), (1, .int x1)], [.ref p], M)) rfl hS.1 hY0 (by decide) rfl rfl ?_
        refine ml_st (S' := (61, [(0, .ref a), (1, .int x1)], [.int x1, .ref p], M)) rfl rfl rfl ?_
        refine ml_call (a := [.ref p, .int x1]) (rest := []) rfl (okc_t rfl rfl rfl hS.1 hY3 (by decide)) rfl rfl (tq_hasAngle hS.1 hY3 (by omega)) (fun v16 M17 h18 => ?_)
        obtain ⟨⟨u19, rfl, z20⟩, h18⟩ := h18
        rw [h18]
        show ml _ _ _ (64, [(0, .ref a), (1, .int x1)], [.int u19], M) _
        refine ml_if (S1 := (71, [], [], M)) (S2 := (67, [], [], M)) rfl rfl rfl (fun c_64 => ?_) (fun c_64 => ?_)
        · have c_64 : ¬ u19 = 0 := of_decide_eq_true c_64
          refine ml_st (S' := (72, [], [.int 0], M)) rfl rfl rfl ?_
          exact ml_ret rfl (r_z (Or.inl rfl)) (⟨⟨_, rfl, Or.inl rfl⟩, rfl⟩)
        · have c_64 : ¬ (¬ u19 = 0) := of_decide_eq_false c_64
          refine ml_st (S' := (68, [], [.int 1], M)) rfl rfl rfl ?_
          refine ml_st (S' := (72, [], [.int 1], M)) rfl rfl rfl ?_
          exact ml_ret rfl (r_z (Or.inr rfl)) (⟨⟨_, rfl, Or.inr rfl⟩, rfl⟩)
  · have c_10 : ¬ (x4 = 0) := of_decide_eq_false c_10
    refine ml_st (S' := (14, [(0, .ref a), (1, .int x1)], [.ref a], M)) rfl rfl rfl ?_
    refine tg_ref (S' := (17, [(0, .ref a), (1, .int x1)], [.ref c], M)) rfl hS.1 hY0 (by decide) rfl rfl ?_
    refine ml_st (S' := (20, [(0, .ref a), (1, .int x1)], [.int 512, .ref c], M)) rfl rfl rfl ?_
    refine ml_call (a := [.ref c, .int 512]) (rest := []) rfl (okc_t rfl rfl rfl hS.1 hY1 (by decide)) rfl rfl (tw_Cl_has hS.1 hY1 hY2 (by omega)) (fun v21 M22 h23 => ?_)
    obtain ⟨⟨u24, rfl, z25⟩, h23⟩ := h23
    rw [h23]
    show ml _ _ _ (23, [(0, .ref a), (1, .int x1)], [.int u24], M) _
    refine ml_if (S1 := (30, [(0, .ref a), (1, .int x1)], [], M)) (S2 := (26, [(0, .ref a), (1, .int x1)], [], M)) rfl rfl rfl (fun c_23 => ?_) (fun c_23 => ?_)
    · have c_23 : ¬ u24 = 0 := of_decide_eq_true c_23
      refine ml_st (S' := (31, [], [.int 0], M)) rfl rfl rfl ?_
      exact ml_ret rfl (r_z (Or.inl rfl)) (⟨⟨_, rfl, Or.inl rfl⟩, rfl⟩)
    · have c_23 : ¬ (¬ u24 = 0) := of_decide_eq_false c_23
      refine ml_st (S' := (27, [(0, .ref a), (1, .int x1)], [.int 1], M)) rfl rfl rfl ?_
      refine ml_st (S' := (31, [], [.int 1], M)) rfl rfl rfl ?_
      exact ml_ret rfl (r_z (Or.inr rfl)) (⟨⟨_, rfl, Or.inr rfl⟩, rfl⟩)
