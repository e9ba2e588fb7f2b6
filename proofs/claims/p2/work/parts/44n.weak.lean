set_option maxHeartbeats 2000000 in
theorem tw_Cl_abstractHolds {g : xe_G} {M : mi_H} {Y : yT} {a c b p vd ac da n me : Nat} {pp : List Nat}  (hW : WF g Y M) (hY0 : Y.1 a = some (2, [c, b, p, vd, ac])) (hY1 : Y.1 c = some (3, [b, da, n])) (hY2 : Y.1 b = some (1, [da, n])) (hY3 : Y.1 p = some (7, pp)) (hY4 : Y.1 vd = some (10, [])) (hY5 : Y.1 ac = some (0, [c, b, p, vd])) (hY6 : Y.1 me = some (6, [da, n])) {d : Nat} (hd : 2 ≤ d) : mt (mT g) d 52 [.ref a, .ref me] M (pZ M) := by
  obtain ⟨d, rfl⟩ : ∃ e, d = e + 1 := ⟨d - 1, by omega⟩
  have hS : st g Y M M := st.rf hW
  refine mt_in (b := mb_52 g) rfl rfl ?_
  show ml (mT g) d (mb_52 g).2 (0, [(0, .ref a), (1, .ref me)], [], M) _
  refine ml_blk 2 (S' := (4, [(0, .ref a), (1, .ref me)], [.int 314, .ref me], M)) rfl ?_
  refine ml_call (a := [.ref me, .int 314]) (rest := []) rfl (okc_t rfl rfl rfl hS.1 hY6 (by decide)) rfl rfl (tw_Me_has hS.1 hY6 (by omega)) (fun v1 M2 h3 => ?_)
  obtain ⟨⟨u4, rfl, z5⟩, h3⟩ := h3
  rw [h3]
  show ml _ _ _ (7, [(0, .ref a), (1, .ref me)], [.int u4], M) _
  refine ml_if (S1 := (12, [(0, .ref a), (1, .ref me)], [], M)) (S2 := (10, [(0, .ref a), (1, .ref me)], [], M)) rfl rfl rfl (fun c_7 => ?_) (fun c_7 => ?_)
  · have c_7 : u4 = 0 := of_decide_eq_true c_7
    refine ml_st (S' := (13, [(0, .ref a), (1, .ref me)], [.ref a], M)) rfl rfl rfl ?_
    refine tg_ref (S' := (16, [(0, .ref a), (1, .ref me)], [.ref c], M)) rfl hS.1 hY0 (by decide) rfl rfl ?_
    refine tg_int rfl hS.1 hY1 (by decide) rfl (fun u6 g7 => ?_)
    show ml _ _ _ (19, [(0, .ref a), (1, .ref me)], [.int u6], M) _
    refine ml_st (S' := (21, [(0, .ref a), (1, .ref me)], [.int 46, .int u6], M)) rfl rfl rfl ?_
    refine ml_if2 (S1 := (46, [], [], M)) (S2 := (24, [(0, .ref a), (1, .ref me)], [], M)) rfl rfl rfl (fun c_21 => ?_) (fun c_21 => ?_)
    · have c_21 : u6 < 46 := of_decide_eq_true c_21
      refine ml_st (S' := (47, [], [.int 1], M)) rfl rfl rfl ?_
      refine ml_st (S' := (51, [], [.int 1], M)) rfl rfl rfl ?_
      exact ml_ret rfl (r_z (Or.inr rfl)) (⟨⟨_, rfl, Or.inr rfl⟩, rfl⟩)
    · have c_21 : ¬ (u6 < 46) := of_decide_eq_false c_21
      refine ml_st (S' := (25, [(0, .ref a), (1, .ref me)], [.ref a], M)) rfl rfl rfl ?_
      refine tg_ref (S' := (28, [(0, .ref a), (1, .ref me)], [.ref c], M)) rfl hS.1 hY0 (by decide) rfl rfl ?_
      refine ml_get (S' := (31, [(0, .ref a), (1, .ref me)], [.int u6], M)) rfl g7 rfl ?_
      refine ml_st (S' := (33, [(0, .ref a), (1, .ref me)], [.int 60, .int u6], M)) rfl rfl rfl ?_
      refine ml_if2 (S1 := (46, [], [], M)) (S2 := (36, [(0, .ref a), (1, .ref me)], [], M)) rfl rfl rfl (fun c_33 => ?_) (fun c_33 => ?_)
      · have c_33 : 60 < u6 := of_decide_eq_true c_33
        refine ml_st (S' := (47, [], [.int 1], M)) rfl rfl rfl ?_
        refine ml_st (S' := (51, [], [.int 1], M)) rfl rfl rfl ?_
        exact ml_ret rfl (r_z (Or.inr rfl)) (⟨⟨_, rfl, Or.inr rfl⟩, rfl⟩)
      · have c_33 : ¬ (60 < u6) := of_decide_eq_false c_33
        refine ml_blk 2 (S' := (40, [(0, .ref a), (1, .ref me)], [.int 2048, .ref me], M)) rfl ?_
        refine ml_call (a := [.ref me, .int 2048]) (rest := []) rfl (okc_t rfl rfl rfl hS.1 hY6 (by decide)) rfl rfl (tw_Me_has hS.1 hY6 (by omega)) (fun v8 M9 h10 => ?_)
        obtain ⟨⟨u11, rfl, z12⟩, h10⟩ := h10
        rw [h10]
        show ml _ _ _ (43, [(0, .ref a), (1, .ref me)], [.int u11], M) _
        refine ml_if (S1 := (50, [(0, .ref a), (1, .ref me)], [], M)) (S2 := (46, [], [], M)) rfl rfl rfl (fun c_43 => ?_) (fun c_43 => ?_)
        · have c_43 : ¬ u11 = 0 := of_decide_eq_true c_43
          refine ml_st (S' := (51, [], [.int 0], M)) rfl rfl rfl ?_
          exact ml_ret rfl (r_z (Or.inl rfl)) (⟨⟨_, rfl, Or.inl rfl⟩, rfl⟩)
        · have c_43 : ¬ (¬ u11 = 0) := of_decide_eq_false c_43
          refine ml_st (S' := (47, [], [.int 1], M)) rfl rfl rfl ?_
          refine ml_st (S' := (51, [], [.int 1], M)) rfl rfl rfl ?_
          exact ml_ret rfl (r_z (Or.inr rfl)) (⟨⟨_, rfl, Or.inr rfl⟩, rfl⟩)
  · have c_7 : ¬ (u4 = 0) := of_decide_eq_false c_7
    refine ml_st (S' := (11, [(0, .ref a), (1, .ref me)], [.int 0], M)) rfl rfl rfl ?_
    exact ml_ret rfl (r_z (Or.inl rfl)) (⟨⟨_, rfl, Or.inl rfl⟩, rfl⟩)
