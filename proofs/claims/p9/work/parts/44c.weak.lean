set_option maxHeartbeats 2000000 in
theorem tw_Cl_hasAll {g : xe_G} {M : mi_H} {Y : yT} {x1 x2 : Int32}  (hW : WF g Y M) {d : Nat} (hd : 1 ≤ d) : mt (mT g) d 58 [.int x1, .int x2] M (pZ M) := by
  obtain ⟨d, rfl⟩ : ∃ e, d = e + 1 := ⟨d - 1, by omega⟩
  have hS : st g Y M M := st.rf hW
  refine mt_in (b := mb_58 g) rfl rfl ?_
  show ml (mT g) d (mb_58 g).2 (0, [(0, .int x1), (1, .int x2)], [], M) _
  refine ml_blk 3 (S' := (3, [(0, .int x1), (1, .int x2)], [.int (x1 &&& x2)], M)) rfl ?_
  refine ml_st (S' := (4, [(0, .int x1), (1, .int x2)], [.int x2, .int (x1 &&& x2)], M)) rfl rfl rfl ?_
  refine ml_if2 (S1 := (11, [(0, .int x1), (1, .int x2)], [], M)) (S2 := (7, [(0, .int x1), (1, .int x2)], [], M)) rfl rfl rfl (fun c_4 => ?_) (fun c_4 => ?_)
  · have c_4 : ¬ (x1 &&& x2) = x2 := of_decide_eq_true c_4
    refine ml_st (S' := (12, [], [.int 0], M)) rfl rfl rfl ?_
    exact ml_ret rfl (r_z (Or.inl rfl)) (⟨⟨_, rfl, Or.inl rfl⟩, rfl⟩)
  · have c_4 : ¬ (¬ (x1 &&& x2) = x2) := of_decide_eq_false c_4
    refine ml_st (S' := (8, [(0, .int x1), (1, .int x2)], [.int 1], M)) rfl rfl rfl ?_
    refine ml_st (S' := (12, [], [.int 1], M)) rfl rfl rfl ?_
    exact ml_ret rfl (r_z (Or.inr rfl)) (⟨⟨_, rfl, Or.inr rfl⟩, rfl⟩)
set_option maxHeartbeats 2000000 in
theorem tw_Cl_hasOneAccessAtMost {g : xe_G} {M : mi_H} {Y : yT} {x1 : Int32}  (hW : WF g Y M) {d : Nat} (hd : 2 ≤ d) : mt (mT g) d 59 [.int x1] M (pZ M) := by
  obtain ⟨d, rfl⟩ : ∃ e, d = e + 1 := ⟨d - 1, by omega⟩
  have hS : st g Y M M := st.rf hW
  refine mt_in (b := mb_59 g) rfl rfl ?_
  show ml (mT g) d (mb_59 g).2 (0, [(0, .int x1)], [], M) _
  refine ml_blk 3 (S' := (4, [(0, .int x1)], [.int (x1 &&& 7)], M)) rfl ?_
  refine ml_call (a := [.int (x1 &&& 7)]) (rest := []) rfl (rfl) rfl rfl (tw_J_bitCount hS.1  (by omega)) (fun v1 M2 h3 => ?_)
  obtain ⟨⟨u4, rfl⟩, h3⟩ := h3
  rw [h3]
  show ml _ _ _ (7, [(0, .int x1)], [.int u4], M) _
  refine ml_st (S' := (8, [(0, .int x1)], [.int 1, .int u4], M)) rfl rfl rfl ?_
  refine ml_if2 (S1 := (15, [(0, .int x1)], [], M)) (S2 := (11, [(0, .int x1)], [], M)) rfl rfl rfl (fun c_8 => ?_) (fun c_8 => ?_)
  · have c_8 : 1 < u4 := of_decide_eq_true c_8
    refine ml_st (S' := (16, [], [.int 0], M)) rfl rfl rfl ?_
    exact ml_ret rfl (r_z (Or.inl rfl)) (⟨⟨_, rfl, Or.inl rfl⟩, rfl⟩)
  · have c_8 : ¬ (1 < u4) := of_decide_eq_false c_8
    refine ml_st (S' := (12, [(0, .int x1)], [.int 1], M)) rfl rfl rfl ?_
    refine ml_st (S' := (16, [], [.int 1], M)) rfl rfl rfl ?_
    exact ml_ret rfl (r_z (Or.inr rfl)) (⟨⟨_, rfl, Or.inr rfl⟩, rfl⟩)
set_option maxHeartbeats 2000000 in
theorem tw_Cl_classFlagsHold {g : xe_G} {M : mi_H} {Y : yT} {x1 : Int32}  (hW : WF g Y M) {d : Nat} (hd : 2 ≤ d) : mt (mT g) d 53 [.int x1] M (pZ M) := by
  obtain ⟨d, rfl⟩ : ∃ e, d = e + 1 := ⟨d - 1, by omega⟩
  have hS : st g Y M M := st.rf hW
  refine mt_in (b := mb_53 g) rfl rfl ?_
  show ml (mT g) d (mb_53 g).2 (0, [(0, .int x1)], [], M) _
  refine ml_blk 3 (S' := (4, [(0, .int x1)], [.int (x1 &&& 32768)], M)) rfl ?_
  refine ml_if (S1 := (9, [(0, .int x1)], [], M)) (S2 := (7, [(0, .int x1)], [], M)) rfl rfl rfl (fun c_4 => ?_) (fun c_4 => ?_)
  · have c_4 : (x1 &&& 32768) = 0 := of_decide_eq_true c_4
    refine ml_blk 3 (S' := (14, [(0, .int x1)], [.int (x1 &&& 512)], M)) rfl ?_
    refine ml_if (S1 := (39, [(0, .int x1)], [], M)) (S2 := (17, [(0, .int x1)], [], M)) rfl rfl rfl (fun c_14 => ?_) (fun c_14 => ?_)
    · have c_14 : (x1 &&& 512) = 0 := of_decide_eq_true c_14
      refine ml_blk 3 (S' := (44, [(0, .int x1)], [.int (x1 &&& 8192)], M)) rfl ?_
      refine ml_if (S1 := (61, [], [], M)) (S2 := (47, [(0, .int x1)], [], M)) rfl rfl rfl (fun c_44 => ?_) (fun c_44 => ?_)
      · have c_44 : ¬ (x1 &&& 8192) = 0 := of_decide_eq_true c_44
        refine ml_st (S' := (62, [], [.int 0], M)) rfl rfl rfl ?_
        exact ml_ret rfl (r_z (Or.inl rfl)) (⟨⟨_, rfl, Or.inl rfl⟩, rfl⟩)
      · have c_44 : ¬ (¬ (x1 &&& 8192) = 0) := of_decide_eq_false c_44
        refine ml_blk 2 (S' := (51, [(0, .int x1)], [.int 1040, .int x1], M)) rfl ?_
        refine ml_call (a := [.int x1, .int 1040]) (rest := []) rfl (rfl) rfl rfl (tw_Cl_hasAll hS.1  (by omega)) (fun v1 M2 h3 => ?_)
        obtain ⟨⟨u4, rfl, z5⟩, h3⟩ := h3
        rw [h3]
        show ml _ _ _ (54, [(0, .int x1)], [.int u4], M) _
        refine ml_if (S1 := (61, [], [], M)) (S2 := (57, [(0, .int x1)], [], M)) rfl rfl rfl (fun c_54 => ?_) (fun c_54 => ?_)
        · have c_54 : ¬ u4 = 0 := of_decide_eq_true c_54
          refine ml_st (S' := (62, [], [.int 0], M)) rfl rfl rfl ?_
          exact ml_ret rfl (r_z (Or.inl rfl)) (⟨⟨_, rfl, Or.inl rfl⟩, rfl⟩)
        · have c_54 : ¬ (¬ u4 = 0) := of_decide_eq_false c_54
          refine ml_st (S' := (58, [(0, .int x1)], [.int 1], M)) rfl rfl rfl ?_
          refine ml_st (S' := (62, [], [.int 1], M)) rfl rfl rfl ?_
          exact ml_ret rfl (r_z (Or.inr rfl)) (⟨⟨_, rfl, Or.inr rfl⟩, rfl⟩)
    · have c_14 : ¬ ((x1 &&& 512) = 0) := of_decide_eq_false c_14
      refine ml_blk 3 (S' := (22, [(0, .int x1)], [.int (x1 &&& 1024)], M)) rfl ?_
      refine ml_if (S1 := (37, [], [], M)) (S2 := (25, [(0, .int x1)], [], M)) rfl rfl rfl (fun c_22 => ?_) (fun c_22 => ?_)
      · have c_22 : (x1 &&& 1024) = 0 := of_decide_eq_true c_22
        refine ml_st (S' := (38, [], [.int 0], M)) rfl rfl rfl ?_
        exact ml_ret rfl (r_z (Or.inl rfl)) (⟨⟨_, rfl, Or.inl rfl⟩, rfl⟩)
      · have c_22 : ¬ ((x1 &&& 1024) = 0) := of_decide_eq_false c_22
        refine ml_blk 3 (S' := (30, [(0, .int x1)], [.int (x1 &&& 16432)], M)) rfl ?_
        refine ml_if (S1 := (37, [], [], M)) (S2 := (33, [(0, .int x1)], [], M)) rfl rfl rfl (fun c_30 => ?_) (fun c_30 => ?_)
        · have c_30 : ¬ (x1 &&& 16432) = 0 := of_decide_eq_true c_30
          refine ml_st (S' := (38, [], [.int 0], M)) rfl rfl rfl ?_
          exact ml_ret rfl (r_z (Or.inl rfl)) (⟨⟨_, rfl, Or.inl rfl⟩, rfl⟩)
        · have c_30 : ¬ (¬ (x1 &&& 16432) = 0) := of_decide_eq_false c_30
          refine ml_st (S' := (34, [(0, .int x1)], [.int 1], M)) rfl rfl rfl ?_
          refine ml_st (S' := (38, [], [.int 1], M)) rfl rfl rfl ?_
          exact ml_ret rfl (r_z (Or.inr rfl)) (⟨⟨_, rfl, Or.inr rfl⟩, rfl⟩)
  · have c_4 : ¬ ((x1 &&& 32768) = 0) := of_decide_eq_false c_4
    refine ml_st (S' := (8, [(0, .int x1)], [.int 0], M)) rfl rfl rfl ?_
    exact ml_ret rfl (r_z (Or.inl rfl)) (⟨⟨_, rfl, Or.inl rfl⟩, rfl⟩)
set_option maxHeartbeats 2000000 in
theorem tw_Po_sameMember {g : xe_G} {M : mi_H} {Y : yT} {p mm km da n : Nat} {pp : List Nat} {x2 x3 x4 : Int32}  (hW : WF g Y M) (hY0 : Y.1 p = some (7, pp)) (hY1 : Y.1 mm = some (23, [km, da, n])) {d : Nat} (hd : 3 ≤ d) : mt (mT g) d 132 [.ref p, .ref mm, .int x2, .int x3, .int x4] M (pI M) := by
  obtain ⟨d, rfl⟩ : ∃ e, d = e + 1 := ⟨d - 1, by omega⟩
  have hS : st g Y M M := st.rf hW
  refine mt_in (b := mb_132 g) rfl rfl ?_
  show ml (mT g) d (mb_132 g).2 (0, [(0, .ref p), (1, .ref mm), (2, .int x2), (3, .int x3), (4, .int x4)], [], M) _
  refine ml_st (S' := (1, [(0, .ref p), (1, .ref mm), (2, .int x2), (3, .int x3), (4, .int x4)], [.int 0], M)) rfl rfl rfl ?_
  refine ml_st (S' := (3, [(0, .ref p), (1, .ref mm), (2, .int x2), (3, .int x3), (4, .int x4), (5, .int 0)], [], M)) rfl rfl rfl ?_
  have L_3 : ∀ (n_3 : Nat) (i3_5 : Int32), (2147483648 - i3_5.toInt).toNat ≤ n_3 → 0 ≤ i3_5.toInt → ml (mT g) d (mb_132 g).2 (3, [(0, .ref p), (1, .ref mm), (2, .int x2), (3, .int x3), (4, .int x4), (5, .int i3_5)], [], M) (pI M) := by
    intro n_3
    induction n_3 with
    | zero => intro i3_5 hn; exact (loop_zero hn).elim
    | succ n_3 ih_3 =>
      intro i3_5 hn_3 hi_3
      refine ml_blk 2 (S' := (6, [(0, .ref p), (1, .ref mm), (2, .int x2), (3, .int x3), (4, .int x4), (5, .int i3_5)], [.int x2, .int i3_5], M)) rfl ?_
      refine ml_if2 (S1 := (63, [], [], M)) (S2 := (9, [(0, .ref p), (1, .ref mm), (2, .int x2), (3, .int x3), (4, .int x4), (5, .int i3_5)], [], M)) rfl rfl rfl (fun c_6 => ?_) (fun c_6 => ?_)
      · have c_6 : x2 ≤ i3_5 := of_decide_eq_true c_6
        refine ml_st (S' := (64, [], [.int (-1)], M)) rfl rfl rfl ?_
        exact ml_ret rfl (rfl) (⟨⟨_, rfl⟩, rfl⟩)
      · have c_6 : ¬ (x2 ≤ i3_5) := of_decide_eq_false c_6
        refine ml_blk 2 (S' := (12, [(0, .ref p), (1, .ref mm), (2, .int x2), (3, .int x3), (4, .int x4), (5, .int i3_5)], [.ref mm, .int i3_5], M)) rfl ?_
        refine tl_mem (S' := (13, [(0, .ref p), (1, .ref mm), (2, .int x2), (3, .int x3), (4, .int x4), (5, .int i3_5)], [.int (nI km), .int i3_5], M)) rfl hS.1 hY1 rfl ?_
        refine ml_if2 (S1 := (63, [], [], M)) (S2 := (16, [(0, .ref p), (1, .ref mm), (2, .int x2), (3, .int x3), (4, .int x4), (5, .int i3_5)], [], M)) rfl rfl rfl (fun c_13 => ?_) (fun c_13 => ?_)
        · have c_13 : (nI km) ≤ i3_5 := of_decide_eq_true c_13
          refine ml_st (S' := (64, [], [.int (-1)], M)) rfl rfl rfl ?_
          exact ml_ret rfl (rfl) (⟨⟨_, rfl⟩, rfl⟩)
        · have c_13 : ¬ ((nI km) ≤ i3_5) := of_decide_eq_false c_13
          refine ml_blk 2 (S' := (19, [(0, .ref p), (1, .ref mm), (2, .int x2), (3, .int x3), (4, .int x4), (5, .int i3_5)], [.int i3_5, .ref mm], M)) rfl ?_
          refine ta_mem rfl hS.1 hY1 (vin_nI hi_3 c_13) ?_ (fun b1 h2 => ?_)
          · show ml _ _ _ (20, [(0, .ref p), (1, .ref mm), (2, .int x2), (3, .int x3), (4, .int x4), (5, .int i3_5)], [.null], M) _
            refine ml_st (S' := (22, [(6, .null), (0, .ref p), (1, .ref mm), (2, .int x2), (3, .int x3), (4, .int x4), (5, .int i3_5)], [], M)) rfl rfl rfl ?_
            refine ml_blk 2 (S' := (57, [(0, .ref p), (1, .ref mm), (2, .int x2), (3, .int x3), (4, .int x4), (5, .int i3_5)], [], M)) rfl ?_
            refine ml_st (S' := (60, [(5, .int (i3_5 + 1)), (0, .ref p), (1, .ref mm), (2, .int x2), (3, .int x3), (4, .int x4)], [], M)) rfl rfl rfl ?_
            refine ml_st (S' := (3, [(0, .ref p), (1, .ref mm), (2, .int x2), (3, .int x3), (4, .int x4), (5, .int (i3_5 + 1))], [], M)) rfl rfl rfl ?_
            exact ih_3 (i3_5 + 1) (loop_inc (Int32.not_le.mp c_6) hn_3) (by rw [inc_lt (Int32.not_le.mp c_6)]; omega) 
          · skip
            show ml _ _ _ (20, [(0, .ref p), (1, .ref mm), (2, .int x2), (3, .int x3), (4, .int x4), (5, .int i3_5)], [.ref b1], M) _
            refine ml_st (S' := (22, [(6, .ref b1), (0, .ref p), (1, .ref mm), (2, .int x2), (3, .int x3), (4, .int x4), (5, .int i3_5)], [], M)) rfl rfl rfl ?_
            refine ml_blk 2 (S' := (27, [(6, .ref b1), (0, .ref p), (1, .ref mm), (2, .int x2), (3, .int x3), (4, .int x4), (5, .int i3_5)], [], M)) rfl ?_
            refine ml_blk 2 (S' := (30, [(6, .ref b1), (0, .ref p), (1, .ref mm), (2, .int x2), (3, .int x3), (4, .int x4), (5, .int i3_5)], [.ref b1, .ref p], M)) rfl ?_
            refine tg_int rfl hS.1 h2 (by decide) rfl (fun u3 g4 => ?_)
            show ml _ _ _ (33, [(6, .ref b1), (0, .ref p), (1, .ref mm), (2, .int x2), (3, .int x3), (4, .int x4), (5, .int i3_5)], [.int u3, .ref p], M) _
            refine ml_st (S' := (34, [(6, .ref b1), (0, .ref p), (1, .ref mm), (2, .int x2), (3, .int x3), (4, .int x4), (5, .int i3_5)], [.int x3, .int u3, .ref p], M)) rfl rfl rfl ?_
            refine ml_call (a := [.ref p, .int u3, .int x3]) (rest := []) rfl (okc_t rfl rfl rfl hS.1 hY0 (by decide)) rfl rfl (tq_sameText hS.1 hY0 (by omega)) (fun v5 M6 h7 => ?_)
            obtain ⟨⟨u8, rfl, z9⟩, h7⟩ := h7
            rw [h7]
            show ml _ _ _ (37, [(6, .ref b1), (0, .ref p), (1, .ref mm), (2, .int x2), (3, .int x3), (4, .int x4), (5, .int i3_5)], [.int u8], M) _
            refine ml_if (S1 := (57, [(0, .ref p), (1, .ref mm), (2, .int x2), (3, .int x3), (4, .int x4), (5, .int i3_5)], [], M)) (S2 := (40, [(6, .ref b1), (0, .ref p), (1, .ref mm), (2, .int x2), (3, .int x3), (4, .int x4), (5, .int i3_5)], [], M)) rfl rfl rfl (fun c_37 => ?_) (fun c_37 => ?_)
            · have c_37 : u8 = 0 := of_decide_eq_true c_37
              refine ml_st (S' := (60, [(5, .int (i3_5 + 1)), (0, .ref p), (1, .ref mm), (2, .int x2), (3, .int x3), (4, .int x4)], [], M)) rfl rfl rfl ?_
              refine ml_st (S' := (3, [(0, .ref p), (1, .ref mm), (2, .int x2), (3, .int x3), (4, .int x4), (5, .int (i3_5 + 1))], [], M)) rfl rfl rfl ?_
              exact ih_3 (i3_5 + 1) (loop_inc (Int32.not_le.mp c_6) hn_3) (by rw [inc_lt (Int32.not_le.mp c_6)]; omega) 
            · have c_37 : ¬ (u8 = 0) := of_decide_eq_false c_37
              refine ml_blk 2 (S' := (43, [(6, .ref b1), (0, .ref p), (1, .ref mm), (2, .int x2), (3, .int x3), (4, .int x4), (5, .int i3_5)], [.ref b1, .ref p], M)) rfl ?_
              refine tg_int rfl hS.1 h2 (by decide) rfl (fun u10 g11 => ?_)
              show ml _ _ _ (46, [(6, .ref b1), (0, .ref p), (1, .ref mm), (2, .int x2), (3, .int x3), (4, .int x4), (5, .int i3_5)], [.int u10, .ref p], M) _
              refine ml_st (S' := (48, [(6, .ref b1), (0, .ref p), (1, .ref mm), (2, .int x2), (3, .int x3), (4, .int x4), (5, .int i3_5)], [.int x4, .int u10, .ref p], M)) rfl rfl rfl ?_
              refine ml_call (a := [.ref p, .int u10, .int x4]) (rest := []) rfl (okc_t rfl rfl rfl hS.1 hY0 (by decide)) rfl rfl (tq_sameText hS.1 hY0 (by omega)) (fun v12 M13 h14 => ?_)
              obtain ⟨⟨u15, rfl, z16⟩, h14⟩ := h14
              rw [h14]
              show ml _ _ _ (51, [(6, .ref b1), (0, .ref p), (1, .ref mm), (2, .int x2), (3, .int x3), (4, .int x4), (5, .int i3_5)], [.int u15], M) _
              refine ml_if (S1 := (57, [(0, .ref p), (1, .ref mm), (2, .int x2), (3, .int x3), (4, .int x4), (5, .int i3_5)], [], M)) (S2 := (54, [(6, .ref b1), (0, .ref p), (1, .ref mm), (2, .int x2), (3, .int x3), (4, .int x4), (5, .int i3_5)], [], M)) rfl rfl rfl (fun c_51 => ?_) (fun c_51 => ?_)
              · have c_51 : u15 = 0 := of_decide_eq_true c_51
                refine ml_st (S' := (60, [(5, .int (i3_5 + 1)), (0, .ref p), (1, .ref mm), (2, .int x2), (3, .int x3), (4, .int x4)], [], M)) rfl rfl rfl ?_
                refine ml_st (S' := (3, [(0, .ref p), (1, .ref mm), (2, .int x2), (3, .int x3), (4, .int x4), (5, .int (i3_5 + 1))], [], M)) rfl rfl rfl ?_
                exact ih_3 (i3_5 + 1) (loop_inc (Int32.not_le.mp c_6) hn_3) (by rw [inc_lt (Int32.not_le.mp c_6)]; omega) 
              · have c_51 : ¬ (u15 = 0) := of_decide_eq_false c_51
                refine ml_st (S' := (56, [(6, .ref b1), (0, .ref p), (1, .ref mm), (2, .int x2), (3, .int x3), (4, .int x4), (5, .int i3_5)], [.int i3_5], M)) rfl rfl rfl ?_
                exact ml_ret rfl (rfl) (⟨⟨_, rfl⟩, rfl⟩)
  exact L_3 _ 0 (Nat.le_refl _) (by decide) 
