set_option maxHeartbeats 2000000 in
theorem tw_Cl_methodDescriptorHolds {g : xe_G} {M : mi_H} {Y : yT} {a c b p vd ac da n me : Nat} {pp : List Nat}  (hW : WF g Y M) (hY0 : Y.1 a = some (2, [c, b, p, vd, ac])) (hY1 : Y.1 c = some (3, [b, da, n])) (hY2 : Y.1 b = some (1, [da, n])) (hY3 : Y.1 p = some (7, pp)) (hY4 : Y.1 vd = some (10, [])) (hY5 : Y.1 ac = some (0, [c, b, p, vd])) (hY6 : Y.1 me = some (6, [da, n])) {d : Nat} (hd : 4 ≤ d) : mt (mT g) d 63 [.ref a, .ref me] M (pZ M) := by
  obtain ⟨d, rfl⟩ : ∃ e, d = e + 1 := ⟨d - 1, by omega⟩
  have hS : st g Y M M := st.rf hW
  refine mt_in (b := mb_63 g) rfl rfl ?_
  show ml (mT g) d (mb_63 g).2 (0, [(0, .ref a), (1, .ref me)], [], M) _
  refine ml_st (S' := (1, [(0, .ref a), (1, .ref me)], [.ref a], M)) rfl rfl rfl ?_
  refine tg_ref (S' := (4, [(0, .ref a), (1, .ref me)], [.ref p], M)) rfl hS.1 hY0 (by decide) rfl rfl ?_
  refine ml_st (S' := (5, [(0, .ref a), (1, .ref me)], [.ref me, .ref p], M)) rfl rfl rfl ?_
  refine tg_int rfl hS.1 hY6 (by decide) rfl (fun u1 g2 => ?_)
  show ml _ _ _ (8, [(0, .ref a), (1, .ref me)], [.int u1, .ref p], M) _
  refine ml_call (a := [.ref p, .int u1]) (rest := []) rfl (okc_t rfl rfl rfl hS.1 hY3 (by decide)) rfl rfl (tq_isMethodDescriptor hS.1 hY3 (by omega)) (fun v3 M4 h5 => ?_)
  obtain ⟨⟨u6, rfl, z7⟩, h5⟩ := h5
  rw [h5]
  show ml _ _ _ (11, [(0, .ref a), (1, .ref me)], [.int u6], M) _
  refine ml_if (S1 := (24, [], [], M)) (S2 := (14, [(0, .ref a), (1, .ref me)], [], M)) rfl rfl rfl (fun c_11 => ?_) (fun c_11 => ?_)
  · have c_11 : u6 = 0 := of_decide_eq_true c_11
    refine ml_st (S' := (25, [], [.int 0], M)) rfl rfl rfl ?_
    exact ml_ret rfl (r_z (Or.inl rfl)) (⟨⟨_, rfl, Or.inl rfl⟩, rfl⟩)
  · have c_11 : ¬ (u6 = 0) := of_decide_eq_false c_11
    refine ml_st (S' := (15, [(0, .ref a), (1, .ref me)], [.ref me], M)) rfl rfl rfl ?_
    refine tg_int rfl hS.1 hY6 (by decide) rfl (fun u8 g9 => ?_)
    show ml _ _ _ (18, [(0, .ref a), (1, .ref me)], [.int u8], M) _
    refine ml_st (S' := (21, [(0, .ref a), (1, .ref me)], [.int 255, .int u8], M)) rfl rfl rfl ?_
    refine ml_if2 (S1 := (26, [(0, .ref a), (1, .ref me)], [], M)) (S2 := (24, [], [], M)) rfl rfl rfl (fun c_21 => ?_) (fun c_21 => ?_)
    · have c_21 : u8 ≤ 255 := of_decide_eq_true c_21
      refine ml_st (S' := (27, [(0, .ref a), (1, .ref me)], [.ref a], M)) rfl rfl rfl ?_
      refine tg_ref (S' := (30, [(0, .ref a), (1, .ref me)], [.ref p], M)) rfl hS.1 hY0 (by decide) rfl rfl ?_
      refine ml_st (S' := (31, [(0, .ref a), (1, .ref me)], [.ref me, .ref p], M)) rfl rfl rfl ?_
      refine tg_int rfl hS.1 hY6 (by decide) rfl (fun u10 g11 => ?_)
      show ml _ _ _ (34, [(0, .ref a), (1, .ref me)], [.int u10, .ref p], M) _
      refine ml_st (S' := (36, [(0, .ref a), (1, .ref me)], [.ref (g.2.1 12), .int u10, .ref p], M)) rfl rfl rfl ?_
      refine ml_call (a := [.ref p, .int u10, .ref (g.2.1 12)]) (rest := []) rfl (okc_t rfl rfl rfl hS.1 hY3 (by decide)) rfl rfl (tq_textIs (lk := 12) hS.1 hY3 (by decide) (by omega)) (fun v12 M13 h14 => ?_)
      obtain ⟨⟨x15, rfl, z16⟩, h14⟩ := h14
      rw [h14]
      show ml _ _ _ (39, [(0, .ref a), (1, .ref me)], [.int x15], M) _
      refine ml_if (S1 := (56, [], [], M)) (S2 := (42, [(0, .ref a), (1, .ref me)], [], M)) rfl rfl rfl (fun c_39 => ?_) (fun c_39 => ?_)
      · have c_39 : x15 = 0 := of_decide_eq_true c_39
        refine ml_st (S' := (57, [], [.int 1], M)) rfl rfl rfl ?_
        refine ml_st (S' := (61, [], [.int 1], M)) rfl rfl rfl ?_
        exact ml_ret rfl (r_z (Or.inr rfl)) (⟨⟨_, rfl, Or.inr rfl⟩, rfl⟩)
      · have c_39 : ¬ (x15 = 0) := of_decide_eq_false c_39
        refine ml_st (S' := (43, [(0, .ref a), (1, .ref me)], [.ref a], M)) rfl rfl rfl ?_
        refine tg_ref (S' := (46, [(0, .ref a), (1, .ref me)], [.ref p], M)) rfl hS.1 hY0 (by decide) rfl rfl ?_
        refine ml_st (S' := (47, [(0, .ref a), (1, .ref me)], [.ref me, .ref p], M)) rfl rfl rfl ?_
        refine ml_get (S' := (50, [(0, .ref a), (1, .ref me)], [.int u1, .ref p], M)) rfl g2 rfl ?_
        refine ml_call (a := [.ref p, .int u1]) (rest := []) rfl (okc_t rfl rfl rfl hS.1 hY3 (by decide)) rfl rfl (tq_hasNoResult hS.1 hY3 (by omega)) (fun v17 M18 h19 => ?_)
        obtain ⟨⟨u20, rfl, z21⟩, h19⟩ := h19
        rw [h19]
        show ml _ _ _ (53, [(0, .ref a), (1, .ref me)], [.int u20], M) _
        refine ml_if (S1 := (60, [(0, .ref a), (1, .ref me)], [], M)) (S2 := (56, [], [], M)) rfl rfl rfl (fun c_53 => ?_) (fun c_53 => ?_)
        · have c_53 : u20 = 0 := of_decide_eq_true c_53
          refine ml_st (S' := (61, [], [.int 0], M)) rfl rfl rfl ?_
          exact ml_ret rfl (r_z (Or.inl rfl)) (⟨⟨_, rfl, Or.inl rfl⟩, rfl⟩)
        · have c_53 : ¬ (u20 = 0) := of_decide_eq_false c_53
          refine ml_st (S' := (57, [], [.int 1], M)) rfl rfl rfl ?_
          refine ml_st (S' := (61, [], [.int 1], M)) rfl rfl rfl ?_
          exact ml_ret rfl (r_z (Or.inr rfl)) (⟨⟨_, rfl, Or.inr rfl⟩, rfl⟩)
    · have c_21 : ¬ (u8 ≤ 255) := of_decide_eq_false c_21
      refine ml_st (S' := (25, [], [.int 0], M)) rfl rfl rfl ?_
      exact ml_ret rfl (r_z (Or.inl rfl)) (⟨⟨_, rfl, Or.inl rfl⟩, rfl⟩)
