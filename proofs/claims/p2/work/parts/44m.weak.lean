set_option maxHeartbeats 2000000 in
theorem tw_Cl_fieldFlagsHold {g : xe_G} {M : mi_H} {Y : yT} {a c b p vd ac da n : Nat} {pp : List Nat} {x1 : Int32}  (hW : WF g Y M) (hY0 : Y.1 a = some (2, [c, b, p, vd, ac])) (hY1 : Y.1 c = some (3, [b, da, n])) (hY2 : Y.1 b = some (1, [da, n])) (hY3 : Y.1 p = some (7, pp)) (hY4 : Y.1 vd = some (10, [])) (hY5 : Y.1 ac = some (0, [c, b, p, vd])) {d : Nat} (hd : 3 ≤ d) : mt (mT g) d 55 [.ref a, .int x1] M (pZ M) := by
  obtain ⟨d, rfl⟩ : ∃ e, d = e + 1 := ⟨d - 1, by omega⟩
  have hS : st g Y M M := st.rf hW
  refine mt_in (b := mb_55 g) rfl rfl ?_
  show ml (mT g) d (mb_55 g).2 (0, [(0, .ref a), (1, .int x1)], [], M) _
  refine ml_st (S' := (1, [(0, .ref a), (1, .int x1)], [.ref a], M)) rfl rfl rfl ?_
  refine tg_ref (S' := (4, [(0, .ref a), (1, .int x1)], [.ref c], M)) rfl hS.1 hY0 (by decide) rfl rfl ?_
  refine ml_st (S' := (7, [(0, .ref a), (1, .int x1)], [.int 512, .ref c], M)) rfl rfl rfl ?_
  refine ml_call (a := [.ref c, .int 512]) (rest := []) rfl (okc_t rfl rfl rfl hS.1 hY1 (by decide)) rfl rfl (tw_Cl_has hS.1 hY1 hY2 (by omega)) (fun v1 M2 h3 => ?_)
  obtain ⟨⟨u4, rfl, z5⟩, h3⟩ := h3
  rw [h3]
  show ml _ _ _ (10, [(0, .ref a), (1, .int x1)], [.int u4], M) _
  refine ml_if (S1 := (31, [(0, .ref a), (1, .int x1)], [], M)) (S2 := (13, [(0, .ref a), (1, .int x1)], [], M)) rfl rfl rfl (fun c_10 => ?_) (fun c_10 => ?_)
  · have c_10 : u4 = 0 := of_decide_eq_true c_10
    refine ml_st (S' := (32, [(0, .ref a), (1, .int x1)], [.int x1], M)) rfl rfl rfl ?_
    refine ml_call (a := [.int x1]) (rest := []) rfl (rfl) rfl rfl (tw_Cl_hasOneAccessAtMost hS.1  (by omega)) (fun v6 M7 h8 => ?_)
    obtain ⟨⟨u9, rfl, z10⟩, h8⟩ := h8
    rw [h8]
    show ml _ _ _ (35, [(0, .ref a), (1, .int x1)], [.int u9], M) _
    refine ml_if (S1 := (51, [], [], M)) (S2 := (38, [(0, .ref a), (1, .int x1)], [], M)) rfl rfl rfl (fun c_35 => ?_) (fun c_35 => ?_)
    · have c_35 : u9 = 0 := of_decide_eq_true c_35
      refine ml_st (S' := (52, [], [.int 0], M)) rfl rfl rfl ?_
      exact ml_ret rfl (r_z (Or.inl rfl)) (⟨⟨_, rfl, Or.inl rfl⟩, rfl⟩)
    · have c_35 : ¬ (u9 = 0) := of_decide_eq_false c_35
      refine ml_blk 2 (S' := (41, [(0, .ref a), (1, .int x1)], [.int 80, .int x1], M)) rfl ?_
      refine ml_call (a := [.int x1, .int 80]) (rest := []) rfl (rfl) rfl rfl (tw_Cl_hasAll hS.1  (by omega)) (fun v11 M12 h13 => ?_)
      obtain ⟨⟨u14, rfl, z15⟩, h13⟩ := h13
      rw [h13]
      show ml _ _ _ (44, [(0, .ref a), (1, .int x1)], [.int u14], M) _
      refine ml_if (S1 := (51, [], [], M)) (S2 := (47, [(0, .ref a), (1, .int x1)], [], M)) rfl rfl rfl (fun c_44 => ?_) (fun c_44 => ?_)
      · have c_44 : ¬ u14 = 0 := of_decide_eq_true c_44
        refine ml_st (S' := (52, [], [.int 0], M)) rfl rfl rfl ?_
        exact ml_ret rfl (r_z (Or.inl rfl)) (⟨⟨_, rfl, Or.inl rfl⟩, rfl⟩)
      · have c_44 : ¬ (¬ u14 = 0) := of_decide_eq_false c_44
        refine ml_st (S' := (48, [(0, .ref a), (1, .int x1)], [.int 1], M)) rfl rfl rfl ?_
        refine ml_st (S' := (52, [], [.int 1], M)) rfl rfl rfl ?_
        exact ml_ret rfl (r_z (Or.inr rfl)) (⟨⟨_, rfl, Or.inr rfl⟩, rfl⟩)
  · have c_10 : ¬ (u4 = 0) := of_decide_eq_false c_10
    refine ml_st (S' := (16, [(0, .ref a), (1, .int x1)], [.int 16607], M)) rfl rfl rfl ?_
    refine ml_st (S' := (17, [(2, .int 16607), (0, .ref a), (1, .int x1)], [], M)) rfl rfl rfl ?_
    refine ml_blk 3 (S' := (20, [(2, .int 16607), (0, .ref a), (1, .int x1)], [.int (x1 &&& 16607)], M)) rfl ?_
    refine ml_st (S' := (22, [(2, .int 16607), (0, .ref a), (1, .int x1)], [.int 25, .int (x1 &&& 16607)], M)) rfl rfl rfl ?_
    refine ml_if2 (S1 := (29, [(2, .int 16607), (0, .ref a), (1, .int x1)], [], M)) (S2 := (25, [(2, .int 16607), (0, .ref a), (1, .int x1)], [], M)) rfl rfl rfl (fun c_22 => ?_) (fun c_22 => ?_)
    · have c_22 : ¬ (x1 &&& 16607) = 25 := of_decide_eq_true c_22
      refine ml_st (S' := (30, [], [.int 0], M)) rfl rfl rfl ?_
      exact ml_ret rfl (r_z (Or.inl rfl)) (⟨⟨_, rfl, Or.inl rfl⟩, rfl⟩)
    · have c_22 : ¬ (¬ (x1 &&& 16607) = 25) := of_decide_eq_false c_22
      refine ml_st (S' := (26, [(2, .int 16607), (0, .ref a), (1, .int x1)], [.int 1], M)) rfl rfl rfl ?_
      refine ml_st (S' := (30, [], [.int 1], M)) rfl rfl rfl ?_
      exact ml_ret rfl (r_z (Or.inr rfl)) (⟨⟨_, rfl, Or.inr rfl⟩, rfl⟩)
