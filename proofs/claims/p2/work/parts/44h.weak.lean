set_option maxHeartbeats 2000000 in
theorem tw_Cl_bootstrapPart {g : xe_G} {M : mi_H} {Y : yT} {c b da n : Nat} {x1 x2 : Int32}  (hW : WF g Y M) (hY0 : Y.1 c = some (3, [b, da, n])) (hY1 : Y.1 b = some (1, [da, n])) {d : Nat} (hd : 2 ≤ d) : mt (mT g) d 70 [.ref c, .int x1, .int x2] M (pI M) := by
  obtain ⟨d, rfl⟩ : ∃ e, d = e + 1 := ⟨d - 1, by omega⟩
  have hS : st g Y M M := st.rf hW
  refine mt_in (b := mb_70 g) rfl rfl ?_
  show ml (mT g) d (mb_70 g).2 (0, [(0, .ref c), (1, .int x1), (2, .int x2)], [], M) _
  refine ml_st (S' := (1, [(0, .ref c), (1, .int x1), (2, .int x2)], [.int x1], M)) rfl rfl rfl ?_
  refine ml_if (S1 := (12, [], [], M)) (S2 := (4, [(0, .ref c), (1, .int x1), (2, .int x2)], [], M)) rfl rfl rfl (fun c_1 => ?_) (fun c_1 => ?_)
  · have c_1 : x1 < 0 := of_decide_eq_true c_1
    refine ml_st (S' := (13, [], [.int (-1)], M)) rfl rfl rfl ?_
    exact ml_ret rfl (rfl) (⟨⟨_, rfl⟩, rfl⟩)
  · have c_1 : ¬ (x1 < 0) := of_decide_eq_false c_1
    refine ml_blk 2 (S' := (6, [(0, .ref c), (1, .int x1), (2, .int x2)], [.ref c, .int x1], M)) rfl ?_
    refine tg_int rfl hS.1 hY0 (by decide) rfl (fun u1 g2 => ?_)
    show ml _ _ _ (9, [(0, .ref c), (1, .int x1), (2, .int x2)], [.int u1, .int x1], M) _
    refine ml_if2 (S1 := (14, [(0, .ref c), (1, .int x1), (2, .int x2)], [], M)) (S2 := (12, [], [], M)) rfl rfl rfl (fun c_9 => ?_) (fun c_9 => ?_)
    · have c_9 : x1 < u1 := of_decide_eq_true c_9
      refine ml_st (S' := (15, [(0, .ref c), (1, .int x1), (2, .int x2)], [.ref c], M)) rfl rfl rfl ?_
      refine tg_int rfl hS.1 hY0 (by decide) rfl (fun u3 g4 => ?_)
      show ml _ _ _ (18, [(0, .ref c), (1, .int x1), (2, .int x2)], [.int u3], M) _
      refine ml_st (S' := (19, [(3, .int u3), (0, .ref c), (1, .int x1), (2, .int x2)], [], M)) rfl rfl rfl ?_
      refine ml_st (S' := (20, [(3, .int u3), (0, .ref c), (1, .int x1), (2, .int x2)], [.int 0], M)) rfl rfl rfl ?_
      refine ml_st (S' := (22, [(0, .ref c), (1, .int x1), (2, .int x2), (3, .int u3), (4, .int 0)], [], M)) rfl rfl rfl ?_
      have L_22 : ∀ (n_22 : Nat) (i22_3 : Int32) (i22_4 : Int32), (2147483648 - i22_4.toInt).toNat ≤ n_22 → ml (mT g) d (mb_70 g).2 (22, [(0, .ref c), (1, .int x1), (2, .int x2), (3, .int i22_3), (4, .int i22_4)], [], M) (pI M) := by
        intro n_22
        induction n_22 with
        | zero => intro i22_3 i22_4 hn; exact (loop_zero hn).elim
        | succ n_22 ih_22 =>
          intro i22_3 i22_4 hn_22
          refine ml_blk 2 (S' := (25, [(0, .ref c), (1, .int x1), (2, .int x2), (3, .int i22_3), (4, .int i22_4)], [.int x1, .int i22_4], M)) rfl ?_
          refine ml_if2 (S1 := (51, [(0, .ref c), (1, .int x1), (2, .int x2), (3, .int i22_3), (4, .int i22_4)], [], M)) (S2 := (28, [(0, .ref c), (1, .int x1), (2, .int x2), (3, .int i22_3), (4, .int i22_4)], [], M)) rfl rfl rfl (fun c_25 => ?_) (fun c_25 => ?_)
          · have c_25 : x1 ≤ i22_4 := of_decide_eq_true c_25
            refine ml_st (S' := (52, [(0, .ref c), (1, .int x1), (2, .int x2), (3, .int i22_3), (4, .int i22_4)], [.int x2], M)) rfl rfl rfl ?_
            refine ml_if (S1 := (69, [], [], M)) (S2 := (55, [(0, .ref c), (1, .int x1), (2, .int x2), (3, .int i22_3), (4, .int i22_4)], [], M)) rfl rfl rfl (fun c_52 => ?_) (fun c_52 => ?_)
            · have c_52 : x2 < 0 := of_decide_eq_true c_52
              refine ml_st (S' := (70, [], [.int (-1)], M)) rfl rfl rfl ?_
              exact ml_ret rfl (rfl) (⟨⟨_, rfl⟩, rfl⟩)
            · have c_52 : ¬ (x2 < 0) := of_decide_eq_false c_52
              refine ml_blk 2 (S' := (57, [(0, .ref c), (1, .int x1), (2, .int x2), (3, .int i22_3), (4, .int i22_4)], [.ref c, .int x2], M)) rfl ?_
              refine tg_ref (S' := (60, [(0, .ref c), (1, .int x1), (2, .int x2), (3, .int i22_3), (4, .int i22_4)], [.ref b, .int x2], M)) rfl hS.1 hY0 (by decide) rfl rfl ?_
              refine ml_blk 3 (S' := (63, [(0, .ref c), (1, .int x1), (2, .int x2), (3, .int i22_3), (4, .int i22_4)], [.int (i22_3 + 2), .ref b, .int x2], M)) rfl ?_
              refine ml_call (a := [.ref b, .int (i22_3 + 2)]) (rest := [.int x2]) rfl (okc_t rfl rfl rfl hS.1 hY1 (by decide)) rfl rfl (tq_u2 hS.1 hY1 (by omega)) (fun v5 M6 h7 => ?_)
              obtain ⟨⟨u8, rfl⟩, h7⟩ := h7
              rw [h7]
              show ml _ _ _ (66, [(0, .ref c), (1, .int x1), (2, .int x2), (3, .int i22_3), (4, .int i22_4)], [.int u8, .int x2], M) _
              refine ml_if2 (S1 := (71, [(0, .ref c), (1, .int x1), (2, .int x2), (3, .int i22_3), (4, .int i22_4)], [], M)) (S2 := (69, [], [], M)) rfl rfl rfl (fun c_66 => ?_) (fun c_66 => ?_)
              · have c_66 : x2 ≤ u8 := of_decide_eq_true c_66
                refine ml_st (S' := (72, [(0, .ref c), (1, .int x1), (2, .int x2), (3, .int i22_3), (4, .int i22_4)], [.ref c], M)) rfl rfl rfl ?_
                refine tg_ref (S' := (75, [(0, .ref c), (1, .int x1), (2, .int x2), (3, .int i22_3), (4, .int i22_4)], [.ref b], M)) rfl hS.1 hY0 (by decide) rfl rfl ?_
                refine ml_st (S' := (76, [(0, .ref c), (1, .int x1), (2, .int x2), (3, .int i22_3), (4, .int i22_4)], [.int x2, .ref b], M)) rfl rfl rfl ?_
                refine ml_if (S1 := (83, [(0, .ref c), (1, .int x1), (2, .int x2), (3, .int i22_3), (4, .int i22_4)], [.ref b], M)) (S2 := (79, [(0, .ref c), (1, .int x1), (2, .int x2), (3, .int i22_3), (4, .int i22_4)], [.ref b], M)) rfl rfl rfl (fun c_76 => ?_) (fun c_76 => ?_)
                · have c_76 : ¬ x2 = 0 := of_decide_eq_true c_76
                  refine ml_blk 3 (S' := (86, [(0, .ref c), (1, .int x1), (2, .int x2), (3, .int i22_3), (4, .int i22_4)], [.int (i22_3 + 2), .ref b], M)) rfl ?_
                  refine ml_blk 3 (S' := (89, [(0, .ref c), (1, .int x1), (2, .int x2), (3, .int i22_3), (4, .int i22_4)], [.int (2 * x2), .int (i22_3 + 2), .ref b], M)) rfl ?_
                  refine ml_st (S' := (90, [], [.int ((i22_3 + 2) + (2 * x2)), .ref b], M)) rfl rfl rfl ?_
                  refine ml_call (a := [.ref b, .int ((i22_3 + 2) + (2 * x2))]) (rest := []) rfl (okc_t rfl rfl rfl hS.1 hY1 (by decide)) rfl rfl (tq_u2 hS.1 hY1 (by omega)) (fun v9 M10 h11 => ?_)
                  obtain ⟨⟨u12, rfl⟩, h11⟩ := h11
                  rw [h11]
                  show ml _ _ _ (93, [], [.int u12], M) _
                  exact ml_ret rfl (rfl) (⟨⟨_, rfl⟩, rfl⟩)
                · have c_76 : ¬ (¬ x2 = 0) := of_decide_eq_false c_76
                  refine ml_st (S' := (80, [(0, .ref c), (1, .int x1), (2, .int x2), (3, .int i22_3), (4, .int i22_4)], [.int i22_3, .ref b], M)) rfl rfl rfl ?_
                  refine ml_st (S' := (90, [], [.int i22_3, .ref b], M)) rfl rfl rfl ?_
                  refine ml_call (a := [.ref b, .int i22_3]) (rest := []) rfl (okc_t rfl rfl rfl hS.1 hY1 (by decide)) rfl rfl (tq_u2 hS.1 hY1 (by omega)) (fun v13 M14 h15 => ?_)
                  obtain ⟨⟨u16, rfl⟩, h15⟩ := h15
                  rw [h15]
                  show ml _ _ _ (93, [], [.int u16], M) _
                  exact ml_ret rfl (rfl) (⟨⟨_, rfl⟩, rfl⟩)
              · have c_66 : ¬ (x2 ≤ u8) := of_decide_eq_false c_66
                refine ml_st (S' := (70, [], [.int (-1)], M)) rfl rfl rfl ?_
                exact ml_ret rfl (rfl) (⟨⟨_, rfl⟩, rfl⟩)
          · have c_25 : ¬ (x1 ≤ i22_4) := of_decide_eq_false c_25
            refine ml_blk 3 (S' := (31, [(0, .ref c), (1, .int x1), (2, .int x2), (3, .int i22_3), (4, .int i22_4)], [.int 2, .int 4, .int i22_3], M)) rfl ?_
            refine ml_st (S' := (32, [(0, .ref c), (1, .int x1), (2, .int x2), (3, .int i22_3), (4, .int i22_4)], [.ref c, .int 2, .int 4, .int i22_3], M)) rfl rfl rfl ?_
            refine tg_ref (S' := (35, [(0, .ref c), (1, .int x1), (2, .int x2), (3, .int i22_3), (4, .int i22_4)], [.ref b, .int 2, .int 4, .int i22_3], M)) rfl hS.1 hY0 (by decide) rfl rfl ?_
            refine ml_blk 3 (S' := (38, [(0, .ref c), (1, .int x1), (2, .int x2), (3, .int i22_3), (4, .int i22_4)], [.int (i22_3 + 2), .ref b, .int 2, .int 4, .int i22_3], M)) rfl ?_
            refine ml_call (a := [.ref b, .int (i22_3 + 2)]) (rest := [.int 2, .int 4, .int i22_3]) rfl (okc_t rfl rfl rfl hS.1 hY1 (by decide)) rfl rfl (tq_u2 hS.1 hY1 (by omega)) (fun v17 M18 h19 => ?_)
            obtain ⟨⟨u20, rfl⟩, h19⟩ := h19
            rw [h19]
            show ml _ _ _ (41, [(0, .ref c), (1, .int x1), (2, .int x2), (3, .int i22_3), (4, .int i22_4)], [.int u20, .int 2, .int 4, .int i22_3], M) _
            refine ml_blk 3 (S' := (44, [(0, .ref c), (1, .int x1), (2, .int x2), (3, .int i22_3), (4, .int i22_4)], [.int (i22_3 + (4 + (2 * u20)))], M)) rfl ?_
            refine ml_st (S' := (45, [(3, .int (i22_3 + (4 + (2 * u20)))), (0, .ref c), (1, .int x1), (2, .int x2), (4, .int i22_4)], [], M)) rfl rfl rfl ?_
            refine ml_st (S' := (48, [(4, .int (i22_4 + 1)), (3, .int (i22_3 + (4 + (2 * u20)))), (0, .ref c), (1, .int x1), (2, .int x2)], [], M)) rfl rfl rfl ?_
            refine ml_st (S' := (22, [(0, .ref c), (1, .int x1), (2, .int x2), (3, .int (i22_3 + (4 + (2 * u20)))), (4, .int (i22_4 + 1))], [], M)) rfl rfl rfl ?_
            exact ih_22 (i22_3 + (4 + (2 * u20))) (i22_4 + 1) (loop_inc (Int32.not_le.mp c_25) hn_22) 
      exact L_22 _ u3 0 (Nat.le_refl _) 
    · have c_9 : ¬ (x1 < u1) := of_decide_eq_false c_9
      refine ml_st (S' := (13, [], [.int (-1)], M)) rfl rfl rfl ?_
      exact ml_ret rfl (rfl) (⟨⟨_, rfl⟩, rfl⟩)
