set_option maxHeartbeats 2000000 in
theorem tw_Cl_has {g : xe_G} {M : mi_H} {Y : yT} {c b da n : Nat} {x1 : Int32}  (hW : WF g Y M) (hY0 : Y.1 c = some (3, [b, da, n])) (hY1 : Y.1 b = some (1, [da, n])) {d : Nat} (hd : 2 ≤ d) : mt (mT g) d 71 [.ref c, .int x1] M (pZ M) := by
  obtain ⟨d, rfl⟩ : ∃ e, d = e + 1 := ⟨d - 1, by omega⟩
  have hS : st g Y M M := st.rf hW
  refine mt_in (b := mb_71 g) rfl rfl ?_
  show ml (mT g) d (mb_71 g).2 (0, [(0, .ref c), (1, .int x1)], [], M) _
  refine ml_st (S' := (1, [(0, .ref c), (1, .int x1)], [.ref c], M)) rfl rfl rfl ?_
  refine tg_ref (S' := (4, [(0, .ref c), (1, .int x1)], [.ref b], M)) rfl hS.1 hY0 (by decide) rfl rfl ?_
  refine ml_st (S' := (5, [(0, .ref c), (1, .int x1)], [.ref c, .ref b], M)) rfl rfl rfl ?_
  refine tg_int rfl hS.1 hY0 (by decide) rfl (fun u1 g2 => ?_)
  show ml _ _ _ (8, [(0, .ref c), (1, .int x1)], [.int u1, .ref b], M) _
  refine ml_call (a := [.ref b, .int u1]) (rest := []) rfl (okc_t rfl rfl rfl hS.1 hY1 (by decide)) rfl rfl (tq_u2 hS.1 hY1 (by omega)) (fun v3 M4 h5 => ?_)
  obtain ⟨⟨u6, rfl⟩, h5⟩ := h5
  rw [h5]
  show ml _ _ _ (11, [(0, .ref c), (1, .int x1)], [.int u6], M) _
  refine ml_blk 2 (S' := (13, [(0, .ref c), (1, .int x1)], [.int (u6 &&& x1)], M)) rfl ?_
  refine ml_if (S1 := (20, [(0, .ref c), (1, .int x1)], [], M)) (S2 := (16, [(0, .ref c), (1, .int x1)], [], M)) rfl rfl rfl (fun c_13 => ?_) (fun c_13 => ?_)
  · have c_13 : (u6 &&& x1) = 0 := of_decide_eq_true c_13
    refine ml_st (S' := (21, [], [.int 0], M)) rfl rfl rfl ?_
    exact ml_ret rfl (r_z (Or.inl rfl)) (⟨⟨_, rfl, Or.inl rfl⟩, rfl⟩)
  · have c_13 : ¬ ((u6 &&& x1) = 0) := of_decide_eq_false c_13
    refine ml_st (S' := (17, [(0, .ref c), (1, .int x1)], [.int 1], M)) rfl rfl rfl ?_
    refine ml_st (S' := (21, [], [.int 1], M)) rfl rfl rfl ?_
    exact ml_ret rfl (r_z (Or.inr rfl)) (⟨⟨_, rfl, Or.inr rfl⟩, rfl⟩)
set_option maxHeartbeats 2000000 in
theorem tw_Cl_attributeNumber {g : xe_G} {M : mi_H} {Y : yT} {c b da n : Nat} {x1 : Int32}  (hW : WF g Y M) (hY0 : Y.1 c = some (3, [b, da, n])) (hY1 : Y.1 b = some (1, [da, n])) {d : Nat} (hd : 1 ≤ d) : mt (mT g) d 69 [.ref c, .int x1] M (pI M) := by
  obtain ⟨d, rfl⟩ : ∃ e, d = e + 1 := ⟨d - 1, by omega⟩
  have hS : st g Y M M := st.rf hW
  refine mt_in (b := mb_69 g) rfl rfl ?_
  show ml (mT g) d (mb_69 g).2 (0, [(0, .ref c), (1, .int x1)], [], M) _
  refine ml_st (S' := (1, [(0, .ref c), (1, .int x1)], [.int x1], M)) rfl rfl rfl ?_
  refine ml_sw rfl (fun t_1 ht_1 => ?_)
  have kt_1 := ht_1
  have ht_1 : t_1 ∈ [60, 65, 70, 75, 80, 85] := mi_sw_sub ht_1 (by decide)
  simp only [List.mem_cons, List.not_mem_nil, or_false] at ht_1
  rcases ht_1 with rfl | rfl | rfl | rfl | rfl | rfl
  · show ml _ _ _ (60, [(0, .ref c), (1, .int x1)], [], M) _
    refine ml_st (S' := (61, [(0, .ref c), (1, .int x1)], [.ref c], M)) rfl rfl rfl ?_
    refine tg_int rfl hS.1 hY0 (by decide) rfl (fun u1 g2 => ?_)
    show ml _ _ _ (64, [(0, .ref c), (1, .int x1)], [.int u1], M) _
    exact ml_ret rfl (rfl) (⟨⟨_, rfl⟩, rfl⟩)
  · show ml _ _ _ (65, [(0, .ref c), (1, .int x1)], [], M) _
    refine ml_st (S' := (66, [(0, .ref c), (1, .int x1)], [.ref c], M)) rfl rfl rfl ?_
    refine tg_int rfl hS.1 hY0 (by decide) rfl (fun u3 g4 => ?_)
    show ml _ _ _ (69, [(0, .ref c), (1, .int x1)], [.int u3], M) _
    exact ml_ret rfl (rfl) (⟨⟨_, rfl⟩, rfl⟩)
  · show ml _ _ _ (70, [(0, .ref c), (1, .int x1)], [], M) _
    refine ml_st (S' := (71, [(0, .ref c), (1, .int x1)], [.ref c], M)) rfl rfl rfl ?_
    refine tg_int rfl hS.1 hY0 (by decide) rfl (fun u5 g6 => ?_)
    show ml _ _ _ (74, [(0, .ref c), (1, .int x1)], [.int u5], M) _
    exact ml_ret rfl (rfl) (⟨⟨_, rfl⟩, rfl⟩)
  · show ml _ _ _ (75, [(0, .ref c), (1, .int x1)], [], M) _
    refine ml_st (S' := (76, [(0, .ref c), (1, .int x1)], [.ref c], M)) rfl rfl rfl ?_
    refine tg_int rfl hS.1 hY0 (by decide) rfl (fun u7 g8 => ?_)
    show ml _ _ _ (79, [(0, .ref c), (1, .int x1)], [.int u7], M) _
    exact ml_ret rfl (rfl) (⟨⟨_, rfl⟩, rfl⟩)
  · show ml _ _ _ (80, [(0, .ref c), (1, .int x1)], [], M) _
    refine ml_st (S' := (81, [(0, .ref c), (1, .int x1)], [.ref c], M)) rfl rfl rfl ?_
    refine tg_int rfl hS.1 hY0 (by decide) rfl (fun u9 g10 => ?_)
    show ml _ _ _ (84, [(0, .ref c), (1, .int x1)], [.int u9], M) _
    exact ml_ret rfl (rfl) (⟨⟨_, rfl⟩, rfl⟩)
  · show ml _ _ _ (85, [(0, .ref c), (1, .int x1)], [], M) _
    refine ml_st (S' := (86, [(0, .ref c), (1, .int x1)], [.ref c], M)) rfl rfl rfl ?_
    refine tg_int rfl hS.1 hY0 (by decide) rfl (fun u11 g12 => ?_)
    show ml _ _ _ (89, [(0, .ref c), (1, .int x1)], [.int u11], M) _
    exact ml_ret rfl (rfl) (⟨⟨_, rfl⟩, rfl⟩)
set_option maxHeartbeats 2000000 in
theorem tw_Cl_number {g : xe_G} {M : mi_H} {Y : yT} {c b da n : Nat} {x1 : Int32}  (hW : WF g Y M) (hY0 : Y.1 c = some (3, [b, da, n])) (hY1 : Y.1 b = some (1, [da, n])) {d : Nat} (hd : 2 ≤ d) : mt (mT g) d 73 [.ref c, .int x1] M (pI M) := by
  obtain ⟨d, rfl⟩ : ∃ e, d = e + 1 := ⟨d - 1, by omega⟩
  have hS : st g Y M M := st.rf hW
  refine mt_in (b := mb_73 g) rfl rfl ?_
  show ml (mT g) d (mb_73 g).2 (0, [(0, .ref c), (1, .int x1)], [], M) _
  refine ml_st (S' := (1, [(0, .ref c), (1, .int x1)], [.int x1], M)) rfl rfl rfl ?_
  refine ml_sw rfl (fun t_1 ht_1 => ?_)
  have kt_1 := ht_1
  have ht_1 : t_1 ∈ [64, 72, 78, 84, 89, 101, 106, 111, 125, 139, 147] := mi_sw_sub ht_1 (by decide)
  simp only [List.mem_cons, List.not_mem_nil, or_false] at ht_1
  rcases ht_1 with rfl | rfl | rfl | rfl | rfl | rfl | rfl | rfl | rfl | rfl | rfl
  · show ml _ _ _ (64, [(0, .ref c), (1, .int x1)], [], M) _
    refine ml_st (S' := (65, [(0, .ref c), (1, .int x1)], [.ref c], M)) rfl rfl rfl ?_
    refine tg_vo rfl hS.1 hY0 (by decide) rfl (fun b1 g3 h2 => ?_)
    obtain ⟨s4, h2⟩ := h2
    show ml _ _ _ (68, [(0, .ref c), (1, .int x1)], [.ref b1], M) _
    refine tg_pint rfl hS.1 h2 rfl (fun u5 g6 => ?_)
    show ml _ _ _ (71, [(0, .ref c), (1, .int x1)], [.int u5], M) _
    exact ml_ret rfl (rfl) (⟨⟨_, rfl⟩, rfl⟩)
  · show ml _ _ _ (72, [(0, .ref c), (1, .int x1)], [], M) _
    refine ml_st (S' := (73, [(0, .ref c), (1, .int x1)], [.ref c], M)) rfl rfl rfl ?_
    refine tg_vo rfl hS.1 hY0 (by decide) rfl (fun b7 g9 h8 => ?_)
    obtain ⟨k10, h8⟩ := h8
    show ml _ _ _ (76, [(0, .ref c), (1, .int x1)], [.ref b7], M) _
    refine tl_mem (S' := (77, [(0, .ref c), (1, .int x1)], [.int (nI k10)], M)) rfl hS.1 h8 rfl ?_
    exact ml_ret rfl (rfl) (⟨⟨_, rfl⟩, rfl⟩)
  · show ml _ _ _ (78, [(0, .ref c), (1, .int x1)], [], M) _
    refine ml_st (S' := (79, [(0, .ref c), (1, .int x1)], [.ref c], M)) rfl rfl rfl ?_
    refine tg_vo rfl hS.1 hY0 (by decide) rfl (fun b11 g13 h12 => ?_)
    obtain ⟨k14, h12⟩ := h12
    show ml _ _ _ (82, [(0, .ref c), (1, .int x1)], [.ref b11], M) _
    refine tl_mem (S' := (83, [(0, .ref c), (1, .int x1)], [.int (nI k14)], M)) rfl hS.1 h12 rfl ?_
    exact ml_ret rfl (rfl) (⟨⟨_, rfl⟩, rfl⟩)
  · show ml _ _ _ (84, [(0, .ref c), (1, .int x1)], [], M) _
    refine ml_st (S' := (85, [(0, .ref c), (1, .int x1)], [.ref c], M)) rfl rfl rfl ?_
    refine tg_int rfl hS.1 hY0 (by decide) rfl (fun u15 g16 => ?_)
    show ml _ _ _ (88, [(0, .ref c), (1, .int x1)], [.int u15], M) _
    exact ml_ret rfl (rfl) (⟨⟨_, rfl⟩, rfl⟩)
  · show ml _ _ _ (89, [(0, .ref c), (1, .int x1)], [], M) _
    refine ml_st (S' := (90, [(0, .ref c), (1, .int x1)], [.ref c], M)) rfl rfl rfl ?_
    refine tg_ref (S' := (93, [(0, .ref c), (1, .int x1)], [.ref b], M)) rfl hS.1 hY0 (by decide) rfl rfl ?_
    refine ml_st (S' := (94, [(0, .ref c), (1, .int x1)], [.ref c, .ref b], M)) rfl rfl rfl ?_
    refine tg_int rfl hS.1 hY0 (by decide) rfl (fun u17 g18 => ?_)
    show ml _ _ _ (97, [(0, .ref c), (1, .int x1)], [.int u17, .ref b], M) _
    refine ml_call (a := [.ref b, .int u17]) (rest := []) rfl (okc_t rfl rfl rfl hS.1 hY1 (by decide)) rfl rfl (tq_u2 hS.1 hY1 (by omega)) (fun v19 M20 h21 => ?_)
    obtain ⟨⟨u22, rfl⟩, h21⟩ := h21
    rw [h21]
    show ml _ _ _ (100, [(0, .ref c), (1, .int x1)], [.int u22], M) _
    exact ml_ret rfl (rfl) (⟨⟨_, rfl⟩, rfl⟩)
  · show ml _ _ _ (101, [(0, .ref c), (1, .int x1)], [], M) _
    refine ml_st (S' := (102, [(0, .ref c), (1, .int x1)], [.ref c], M)) rfl rfl rfl ?_
    refine tg_int rfl hS.1 hY0 (by decide) rfl (fun u23 g24 => ?_)
    show ml _ _ _ (105, [(0, .ref c), (1, .int x1)], [.int u23], M) _
    exact ml_ret rfl (rfl) (⟨⟨_, rfl⟩, rfl⟩)
  · show ml _ _ _ (106, [(0, .ref c), (1, .int x1)], [], M) _
    refine ml_st (S' := (107, [(0, .ref c), (1, .int x1)], [.ref c], M)) rfl rfl rfl ?_
    refine tg_int rfl hS.1 hY0 (by decide) rfl (fun u25 g26 => ?_)
    show ml _ _ _ (110, [(0, .ref c), (1, .int x1)], [.int u25], M) _
    exact ml_ret rfl (rfl) (⟨⟨_, rfl⟩, rfl⟩)
  · show ml _ _ _ (111, [(0, .ref c), (1, .int x1)], [], M) _
    refine ml_st (S' := (112, [(0, .ref c), (1, .int x1)], [.ref c], M)) rfl rfl rfl ?_
    refine tg_ref (S' := (115, [(0, .ref c), (1, .int x1)], [.ref b], M)) rfl hS.1 hY0 (by decide) rfl rfl ?_
    refine ml_st (S' := (116, [(0, .ref c), (1, .int x1)], [.ref c, .ref b], M)) rfl rfl rfl ?_
    refine tg_int rfl hS.1 hY0 (by decide) rfl (fun u27 g28 => ?_)
    show ml _ _ _ (119, [(0, .ref c), (1, .int x1)], [.int u27, .ref b], M) _
    refine ml_blk 2 (S' := (121, [(0, .ref c), (1, .int x1)], [.int (u27 + 2), .ref b], M)) rfl ?_
    refine ml_call (a := [.ref b, .int (u27 + 2)]) (rest := []) rfl (okc_t rfl rfl rfl hS.1 hY1 (by decide)) rfl rfl (tq_u2 hS.1 hY1 (by omega)) (fun v29 M30 h31 => ?_)
    obtain ⟨⟨u32, rfl⟩, h31⟩ := h31
    rw [h31]
    show ml _ _ _ (124, [(0, .ref c), (1, .int x1)], [.int u32], M) _
    exact ml_ret rfl (rfl) (⟨⟨_, rfl⟩, rfl⟩)
  · show ml _ _ _ (125, [(0, .ref c), (1, .int x1)], [], M) _
    refine ml_st (S' := (126, [(0, .ref c), (1, .int x1)], [.ref c], M)) rfl rfl rfl ?_
    refine tg_ref (S' := (129, [(0, .ref c), (1, .int x1)], [.ref b], M)) rfl hS.1 hY0 (by decide) rfl rfl ?_
    refine ml_st (S' := (130, [(0, .ref c), (1, .int x1)], [.ref c, .ref b], M)) rfl rfl rfl ?_
    refine tg_int rfl hS.1 hY0 (by decide) rfl (fun u33 g34 => ?_)
    show ml _ _ _ (133, [(0, .ref c), (1, .int x1)], [.int u33, .ref b], M) _
    refine ml_blk 2 (S' := (135, [(0, .ref c), (1, .int x1)], [.int (u33 + 4), .ref b], M)) rfl ?_
    refine ml_call (a := [.ref b, .int (u33 + 4)]) (rest := []) rfl (okc_t rfl rfl rfl hS.1 hY1 (by decide)) rfl rfl (tq_u2 hS.1 hY1 (by omega)) (fun v35 M36 h37 => ?_)
    obtain ⟨⟨u38, rfl⟩, h37⟩ := h37
    rw [h37]
    show ml _ _ _ (138, [(0, .ref c), (1, .int x1)], [.int u38], M) _
    exact ml_ret rfl (rfl) (⟨⟨_, rfl⟩, rfl⟩)
  · show ml _ _ _ (139, [(0, .ref c), (1, .int x1)], [], M) _
    refine ml_st (S' := (140, [(0, .ref c), (1, .int x1)], [.ref c], M)) rfl rfl rfl ?_
    refine tg_vo rfl hS.1 hY0 (by decide) rfl (fun b39 g41 h40 => ?_)
    obtain ⟨s42, h40⟩ := h40
    show ml _ _ _ (143, [(0, .ref c), (1, .int x1)], [.ref b39], M) _
    refine tg_pint rfl hS.1 h40 rfl (fun u43 g44 => ?_)
    show ml _ _ _ (146, [(0, .ref c), (1, .int x1)], [.int u43], M) _
    exact ml_ret rfl (rfl) (⟨⟨_, rfl⟩, rfl⟩)
  · show ml _ _ _ (147, [(0, .ref c), (1, .int x1)], [], M) _
    refine ml_blk 2 (S' := (149, [(0, .ref c), (1, .int x1)], [.int x1, .ref c], M)) rfl ?_
    refine ml_call (a := [.ref c, .int x1]) (rest := []) rfl (okc_t rfl rfl rfl hS.1 hY0 (by decide)) rfl rfl (tw_Cl_attributeNumber hS.1 hY0 hY1 (by omega)) (fun v45 M46 h47 => ?_)
    obtain ⟨⟨u48, rfl⟩, h47⟩ := h47
    rw [h47]
    show ml _ _ _ (152, [(0, .ref c), (1, .int x1)], [.int u48], M) _
    exact ml_ret rfl (rfl) (⟨⟨_, rfl⟩, rfl⟩)
set_option maxHeartbeats 2000000 in
theorem tw_Cl_bootstrapPart {g : xe_G} {M : mi_H} {Y : yT} {c b da n : Nat} {x1 x2 : Int32}  (hW : WF g Y M) (hY0 : Y.1 c = some (3, [b, da, n])) (hY1 : Y.1 b = some (1, [da, n])) {d : Nat} (hd : 2 ≤ d) : mt (mT g) d 70 [.ref c, .int x1, .int x2] M (pI M) := by
  obtain ⟨d, rfl⟩ : ∃ e, d = e + 1 := ⟨d - 1, by omega⟩
  have hS : st g Y M M := st.rf hW
  refine mt_in (b := mb_70 g) rfl rfl ?_
  show ml (mT g) d (mb_70 g).2 (0, [(0, .ref c), (1, .int x1), (2, .int x2)], [], M) _
  refine ml_st (S' := (1, [(0, .ref c), (1, .int x1), (2, .int x2)], [.int x1], M)) rfl rfl rfl ?_
  refine ml_if (S1 := (12, [], [], M)) (S2 := (4, [(0, .ref c), (1, .int x1), (2, .int x2)], [], M)) rfl rfl rfl (fun c_1 => ?_) (fun c_1 => ?_)
  · have c_1 : x1 < 0 := of_decide_eq_true c_1
    refine ml_st (S' := (13, [], [.int (-1)], M)) rfl rfl rfl ?_
    exact ml_ret rfl (rfl) (⟨⟨_, rfl⟩, rfl⟩)
  · have c_1 : ¬ (x1 < 0) := of_decide_eq_false c_1
    refine ml_blk 2 (S' := (6, [(0, .ref c), (1, .int x1), (2, .int x2)], [.ref c, .int x1], M)) rfl ?_
    refine tg_int rfl hS.1 hY0 (by decide) rfl (fun u1 g2 => ?_)
    show ml _ _ _ (9, [(0, .ref c), (1, .int x1), (2, .int x2)], [.int u1, .int x1], M) _
    refine ml_if2 (S1 := (14, [(0, .ref c), (1, .int x1), (2, .int x2)], [], M)) (S2 := (12, [], [], M)) rfl rfl rfl (fun c_9 => ?_) (fun c_9 => ?_)
    · have c_9 : x1 < u1 := of_decide_eq_true c_9
      refine ml_st (S' := (15, [(0, .ref c), (1, .int x1), (2, .int x2)], [.ref c], M)) rfl rfl rfl ?_
      refine tg_int rfl hS.1 hY0 (by decide) rfl (fun u3 g4 => ?_)
      show ml _ _ _ (18, [(0, .ref c), (1, .int x1), (2, .int x2)], [.int u3], M) _
      refine ml_st (S' := (19, [(3, .int u3), (0, .ref c), (1, .int x1), (2, .int x2)], [], M)) rfl rfl rfl ?_
      refine ml_st (S' := (20, [(3, .int u3), (0, .ref c), (1, .int x1), (2, .int x2)], [.int 0], M)) rfl rfl rfl ?_
      refine ml_st (S' := (22, [(0, .ref c), (1, .int x1), (2, .int x2), (3, .int u3), (4, .int 0)], [], M)) rfl rfl rfl ?_
      have L_22 : ∀ (n_22 : Nat) (i22_3 : Int32) (i22_4 : Int32), (2147483648 - i22_4.toInt).toNat ≤ n_22 → ml (mT g) d (mb_70 g).2 (22, [(0, .ref c), (1, .int x1), (2, .int x2), (3, .int i22_3), (4, .int i22_4)], [], M) (pI M) := by
        intro n_22
        induction n_22 with
        | zero => intro i22_3 i22_4 hn; exact (loop_zero hn).elim
        | succ n_22 ih_22 =>
          intro i22_3 i22_4 hn_22
          refine ml_blk 2 (S' := (25, [(0, .ref c), (1, .int x1), (2, .int x2), (3, .int i22_3), (4, .int i22_4)], [.int x1, .int i22_4], M)) rfl ?_
          refine ml_if2 (S1 := (51, [(0, .ref c), (1, .int x1), (2, .int x2), (3, .int i22_3), (4, .int i22_4)], [], M)) (S2 := (28, [(0, .ref c), (1, .int x1), (2, .int x2), (3, .int i22_3), (4, .int i22_4)], [], M)) rfl rfl rfl (fun c_25 => ?_) (fun c_25 => ?_)
          · have c_25 : x1 ≤ i22_4 := of_decide_eq_true c_25
            refine ml_st (S' := (52, [(0, .ref c), (1, .int x1), (2, .int x2), (3, .int i22_3), (4, .int i22_4)], [.int x2], M)) rfl rfl rfl ?_
            refine ml_if (S1 := (69, [], [], M)) (S2 := (55, [(0, .ref c), (1, .int x1), (2, .int x2), (3, .int i22_3), (4, .int i22_4)], [], M)) rfl rfl rfl (fun c_52 => ?_) (fun c_52 => ?_)
            · have c_52 : x2 < 0 := of_decide_eq_true c_52
              refine ml_st (S' := (70, [], [.int (-1)], M)) rfl rfl rfl ?_
              exact ml_ret rfl (rfl) (⟨⟨_, rfl⟩, rfl⟩)
            · have c_52 : ¬ (x2 < 0) := of_decide_eq_false c_52
              refine ml_blk 2 (S' := (57, [(0, .ref c), (1, .int x1), (2, .int x2), (3, .int i22_3), (4, .int i22_4)], [.ref c, .int x2], M)) rfl ?_
              refine tg_ref (S' := (60, [(0, .ref c), (1, .int x1), (2, .int x2), (3, .int i22_3), (4, .int i22_4)], [.ref b, .int x2], M)) rfl hS.1 hY0 (by decide) rfl rfl ?_
              refine ml_blk 3 (S' := (63, [(0, .ref c), (1, .int x1), (2, .int x2), (3, .int i22_3), (4, .int i22_4)], [.int (i22_3 + 2), .ref b, .int x2], M)) rfl ?_
              refine ml_call (a := [.ref b, .int (i22_3 + 2)]) (rest := [.int x2]) rfl (okc_t rfl rfl rfl hS.1 hY1 (by decide)) rfl rfl (tq_u2 hS.1 hY1 (by omega)) (fun v5 M6 h7 => ?_)
              obtain ⟨⟨u8, rfl⟩, h7⟩ := h7
              rw [h7]
              show ml _ _ _ (66, [(0, .ref c), (1, .int x1), (2, .int x2), (3, .int i22_3), (4, .int i22_4)], [.int u8, .int x2], M) _
              refine ml_if2 (S1 := (71, [(0, .ref c), (1, .int x1), (2, .int x2), (3, .int i22_3), (4, .int i22_4)], [], M)) (S2 := (69, [], [], M)) rfl rfl rfl (fun c_66 => ?_) (fun c_66 => ?_)
              · have c_66 : x2 ≤ u8 := of_decide_eq_true c_66
                refine ml_st (S' := (72, [(0, .ref c), (1, .int x1), (2, .int x2), (3, .int i22_3), (4, .int i22_4)], [.ref c], M)) rfl rfl rfl ?_
                refine tg_ref (S' := (75, [(0, .ref c), (1, .int x1), (2, .int x2), (3, .int i22_3), (4, .int i22_4)], [.ref b], M)) rfl hS.1 hY0 (by decide) rfl rfl ?_
                refine ml_st (S' := (76, [(0, .ref c), (1, .int x1), (2, .int x2), (3, .int i22_3), (4, .int i22_4)], [.int x2, .ref b], M)) rfl rfl rfl ?_
                refine ml_if (S1 := (83, [(0, .ref c), (1, .int x1), (2, .int x2), (3, .int i22_3), (4, .int i22_4)], [.ref b], M)) (S2 := (79, [(0, .ref c), (1, .int x1), (2, .int x2), (3, .int i22_3), (4, .int i22_4)], [.ref b], M)) rfl rfl rfl (fun c_76 => ?_) (fun c_76 => ?_)
                · have c_76 : ¬ x2 = 0 := of_decide_eq_true c_76
                  refine ml_blk 3 (S' := (86, [(0, .ref c), (1, .int x1), (2, .int x2), (3, .int i22_3), (4, .int i22_4)], [.int (i22_3 + 2), .ref b], M)) rfl ?_
                  refine ml_blk 3 (S' := (89, [(0, .ref c), (1, .int x1), (2, .int x2), (3, .int i22_3), (4, .int i22_4)], [.int (2 * x2), .int (i22_3 + 2), .ref b], M)) rfl ?_
                  refine ml_st (S' := (90, [], [.int ((i22_3 + 2) + (2 * x2)), .ref b], M)) rfl rfl rfl ?_
                  refine ml_call (a := [.ref b, .int ((i22_3 + 2) + (2 * x2))]) (rest := []) rfl (okc_t rfl rfl rfl hS.1 hY1 (by decide)) rfl rfl (tq_u2 hS.1 hY1 (by omega)) (fun v9 M10 h11 => ?_)
                  obtain ⟨⟨u12, rfl⟩, h11⟩ := h11
                  rw [h11]
                  show ml _ _ _ (93, [], [.int u12], M) _
                  exact ml_ret rfl (rfl) (⟨⟨_, rfl⟩, rfl⟩)
                · have c_76 : ¬ (¬ x2 = 0) := of_decide_eq_false c_76
                  refine ml_st (S' := (80, [(0, .ref c), (1, .int x1), (2, .int x2), (3, .int i22_3), (4, .int i22_4)], [.int i22_3, .ref b], M)) rfl rfl rfl ?_
                  refine ml_st (S' := (90, [], [.int i22_3, .ref b], M)) rfl rfl rfl ?_
                  refine ml_call (a := [.ref b, .int i22_3]) (rest := []) rfl (okc_t rfl rfl rfl hS.1 hY1 (by decide)) rfl rfl (tq_u2 hS.1 hY1 (by omega)) (fun v13 M14 h15 => ?_)
                  obtain ⟨⟨u16, rfl⟩, h15⟩ := h15
                  rw [h15]
                  show ml _ _ _ (93, [], [.int u16], M) _
                  exact ml_ret rfl (rfl) (⟨⟨_, rfl⟩, rfl⟩)
              · have c_66 : ¬ (x2 ≤ u8) := of_decide_eq_false c_66
                refine ml_st (S' := (70, [], [.int (-1)], M)) rfl rfl rfl ?_
                exact ml_ret rfl (rfl) (⟨⟨_, rfl⟩, rfl⟩)
          · have c_25 : ¬ (x1 ≤ i22_4) := of_decide_eq_false c_25
            refine ml_blk 3 (S' := (31, [(0, .ref c), (1, .int x1), (2, .int x2), (3, .int i22_3), (4, .int i22_4)], [.int 2, .int 4, .int i22_3], M)) rfl ?_
            refine ml_st (S' := (32, [(0, .ref c), (1, .int x1), (2, .int x2), (3, .int i22_3), (4, .int i22_4)], [.ref c, .int 2, .int 4, .int i22_3], M)) rfl rfl rfl ?_
            refine tg_ref (S' := (35, [(0, .ref c), (1, .int x1), (2, .int x2), (3, .int i22_3), (4, .int i22_4)], [.ref b, .int 2, .int 4, .int i22_3], M)) rfl hS.1 hY0 (by decide) rfl rfl ?_
            refine ml_blk 3 (S' := (38, [(0, .ref c), (1, .int x1), (2, .int x2), (3, .int i22_3), (4, .int i22_4)], [.int (i22_3 + 2), .ref b, .int 2, .int 4, .int i22_3], M)) rfl ?_
            refine ml_call (a := [.ref b, .int (i22_3 + 2)]) (rest := [.int 2, .int 4, .int i22_3]) rfl (okc_t rfl rfl rfl hS.1 hY1 (by decide)) rfl rfl (tq_u2 hS.1 hY1 (by omega)) (fun v17 M18 h19 => ?_)
            obtain ⟨⟨u20, rfl⟩, h19⟩ := h19
            rw [h19]
            show ml _ _ _ (41, [(0, .ref c), (1, .int x1), (2, .int x2), (3, .int i22_3), (4, .int i22_4)], [.int u20, .int 2, .int 4, .int i22_3], M) _
            refine ml_blk 3 (S' := (44, [(0, .ref c), (1, .int x1), (2, .int x2), (3, .int i22_3), (4, .int i22_4)], [.int (i22_3 + (4 + (2 * u20)))], M)) rfl ?_
            refine ml_st (S' := (45, [(3, .int (i22_3 + (4 + (2 * u20)))), (0, .ref c), (1, .int x1), (2, .int x2), (4, .int i22_4)], [], M)) rfl rfl rfl ?_
            refine ml_st (S' := (48, [(4, .int (i22_4 + 1)), (3, .int (i22_3 + (4 + (2 * u20)))), (0, .ref c), (1, .int x1), (2, .int x2)], [], M)) rfl rfl rfl ?_
            refine ml_st (S' := (22, [(0, .ref c), (1, .int x1), (2, .int x2), (3, .int (i22_3 + (4 + (2 * u20)))), (4, .int (i22_4 + 1))], [], M)) rfl rfl rfl ?_
            exact ih_22 (i22_3 + (4 + (2 * u20))) (i22_4 + 1) (loop_inc (Int32.not_le.mp c_25) hn_22) 
      exact L_22 _ u3 0 (Nat.le_refl _) 
    · have c_9 : ¬ (x1 < u1) := of_decide_eq_false c_9
      refine ml_st (S' := (13, [], [.int (-1)], M)) rfl rfl rfl ?_
      exact ml_ret rfl (rfl) (⟨⟨_, rfl⟩, rfl⟩)
