set_option maxHeartbeats 2000000 in
theorem tw_Po_sameMember {g : xe_G} {M : mi_H} {Y : yT} {p mm km da n : Nat} {pp : List Nat} {x2 x3 x4 : Int32}  (hW : WF g Y M) (hY0 : Y.1 p = some (7, pp)) (hY1 : Y.1 mm = some (23, [km, da, n])) {d : Nat} (hd : 3 ≤ d) : mt (mT g) d 132 [.ref p, .ref mm, .int x2, .int x3, .int x4] M (pI M) := by
  obtain ⟨d, rfl⟩ : ∃ e, d = e + 1 := ⟨d - 1, by omega⟩
  have hS : st g Y M M := st.rf hW
  refine mt_in (b := mb_132 g) rfl rfl ?_
  show ml (mT g) d (mb_132 g).2 (0, [(0, .ref p), (1, .ref mm), (2, .int x2), (3, .int x3), (4, .int x4)], [], M) _
  refine ml_st (S' := (1, [(0, .ref p), (1, .ref mm), (2, .int x2), (3, .int x3), (4, .int x4)], [.int 0], M)) rfl rfl rfl ?_
  refine ml_st (S' := (3, [(0, .ref p), (1, .ref mm), (2, .int x2), (3, .int x3), (4, .int x4), (5, .int 0)], [], M)) rfl rfl rfl ?_
  have L_3 : ∀ (n_3 : Nat) (i3_5 : Int32), (2147483648 - i3_5.toInt).toNat ≤ n_3 → 0 ≤ i3_5.toInt → ml (mT g) d (mb_132 g).2 (3, [(0, .ref p), (1, .ref mm), (2, .int x2), (3, .int x3), (4, .int x4), (5, .int i3_5)], [], M) (pI M) := by
    intro n_3
    induction n_3 with
    | zero => intro i3_5 hn; exact (loop_zero hn).elim
    | succ n_3 ih_3 =>
      intro i3_5 hn_3 hi_3
      refine ml_blk 2 (S' := (6, [(0, .ref p), (1, .ref mm), (2, .int x2), (3, .int x3), (4, .int x4), (5, .int i3_5)], [.int x2, .int i3_5], M)) rfl ?_
      refine ml_if2 (S1 := (63, [], [], M)) (S2 := (9, [(0, .ref p), (1, .ref mm), (2, .int x2), (3, .int x3), (4, .int x4), (5, .int i3_5)], [], M)) rfl rfl rfl (fun c_6 => ?_) (fun c_6 => ?_)
      · have c_6 : x2 ≤ i3_5 := of_decide_eq_true c_6
        refine ml_st (S' := (64, [], [.int (-1)], M)) rfl rfl rfl ?_
        exact ml_ret rfl (rfl) (⟨⟨_, rfl⟩, rfl⟩)
      · have c_6 : ¬ (x2 ≤ i3_5) := of_decide_eq_false c_6
        refine ml_blk 2 (S' := (12, [(0, .ref p), (1, .ref mm), (2, .int x2), (3, .int x3), (4, .int x4), (5, .int i3_5)], [.ref mm, .int i3_5], M)) rfl ?_
        refine tl_mem (S' := (13, [(0, .ref p), (1, .ref mm), (2, .int x2), (3, .int x3), (4, .int x4), (5, .int i3_5)], [.int (nI km), .int i3_5], M)) rfl hS.1 hY1 rfl ?_
        refine ml_if2 (S1 := (63, [], [], M)) (S2 := (16, [(0, .ref p), (1, .ref mm), (2, .int x2), (3, .int x3), (4, .int x4), (5, .int i3_5)], [], M)) rfl rfl rfl (fun c_13 => ?_) (fun c_13 => ?_)
        · have c_13 : (nI km) ≤ i3_5 := of_decide_eq_true c_13
          refine ml_st (S' := (64, [], [.int (-1)], M)) rfl rfl rfl ?_
          exact ml_ret rfl (rfl) (⟨⟨_, rfl⟩, rfl⟩)
        · have c_13 : ¬ ((nI km) ≤ i3_5) := of_decide_eq_false c_13
          refine ml_blk 2 (S' := (19, [(0, .ref p), (1, .ref mm), (2, .int x2), (3, .int x3), (4, .int x4), (5, .int i3_5)], [.int i3_5, .ref mm], M)) rfl ?_
          refine ta_mem rfl hS.1 hY1 (vin_nI hi_3 c_13) ?_ (fun b1 h2 => ?_)
          · show ml _ _ _ (20, [(0, .ref p), (1, .ref mm), (2, .int x2), (3, .int x3), (4, .int x4), (5, .int i3_5)], [.null], M) _
            refine ml_st (S' := (22, [(6, .null), (0, .ref p), (1, .ref mm), (2, .int x2), (3, .int x3), (4, .int x4), (5, .int i3_5)], [], M)) rfl rfl rfl ?_
            refine ml_blk 2 (S' := (57, [(0, .ref p), (1, .ref mm), (2, .int x2), (3, .int x3), (4, .int x4), (5, .int i3_5)], [], M)) rfl ?_
            refine ml_st (S' := (60, [(5, .int (i3_5 + 1)), (0, .ref p), (1, .ref mm), (2, .int x2), (3, .int x3), (4, .int x4)], [], M)) rfl rfl rfl ?_
            refine ml_st (S' := (3, [(0, .ref p), (1, .ref mm), (2, .int x2), (3, .int x3), (4, .int x4), (5, .int (i3_5 + 1))], [], M)) rfl rfl rfl ?_
            exact ih_3 (i3_5 + 1) (loop_inc (Int32.not_le.mp c_6) hn_3) (by rw [inc_lt (Int32.not_le.mp c_6)]; omega) 
          · skip
            show ml _ _ _ (20, [(0, .ref p), (1, .ref mm), (2, .int x2), (3, .int x3), (4, .int x4), (5, .int i3_5)], [.ref b1], M) _
            refine ml_st (S' := (22, [(6, .ref b1), (0, .ref p), (1, .ref mm), (2, .int x2), (3, .int x3), (4, .int x4), (5, .int i3_5)], [], M)) rfl rfl rfl ?_
            refine ml_blk 2 (S' := (27, [(6, .ref b1), (0, .ref p), (1, .ref mm), (2, .int x2), (3, .int x3), (4, .int x4), (5, .int i3_5)], [], M)) rfl ?_
            refine ml_blk 2 (S' := (30, [(6, .ref b1), (0, .ref p), (1, .ref mm), (2, .int x2), (3, .int x3), (4, .int x4), (5, .int i3_5)], [.ref b1, .ref p], M)) rfl ?_
            refine tg_int rfl hS.1 h2 (by decide) rfl (fun u3 g4 => ?_)
            show ml _ _ _ (33, [(6, .ref b1), (0, .ref p), (1, .ref mm), (2, .int x2), (3, .int x3), (4, .int x4), (5, .int i3_5)], [.int u3, .ref p], M) _
            refine ml_st (S' := (34, [(6, .ref b1), (0, .ref p), (1, .ref mm), (2, .int x2), (3, .int x3), (4, .int x4), (5, .int i3_5)], [.int x3, .int u3, .ref p], M)) rfl rfl rfl ?_
            refine ml_call (a := [.ref p, .int u3, .int x3]) (rest := []) rfl (okc_t rfl rfl rfl hS.1 hY0 (by decide)) rfl rfl (tq_sameText hS.1 hY0 (by omega)) (fun v5 M6 h7 => ?_)
            obtain ⟨⟨u8, rfl, z9⟩, h7⟩ := h7
            rw [h7]
            show ml _ _ _ (37, [(6, .ref b1), (0, .ref p), (1, .ref mm), (2, .int x2), (3, .int x3), (4, .int x4), (5, .int i3_5)], [.int u8], M) _
            refine ml_if (S1 := (57, [(0, .ref p), (1, .ref mm), (2, .int x2), (3, .int x3), (4, .int x4), (5, .int i3_5)], [], M)) (S2 := (40, [(6, .ref b1), (0, .ref p), (1, .ref mm), (2, .int x2), (3, .int x3), (4, .int x4), (5, .int i3_5)], [], M)) rfl rfl rfl (fun c_37 => ?_) (fun c_37 => ?_)
            · have c_37 : u8 = 0 := of_decide_eq_true c_37
              refine ml_st (S' := (60, [(5, .int (i3_5 + 1)), (0, .ref p), (1, .ref mm), (2, .int x2), (3, .int x3), (4, .int x4)], [], M)) rfl rfl rfl ?_
              refine ml_st (S' := (3, [(0, .ref p), (1, .ref mm), (2, .int x2), (3, .int x3), (4, .int x4), (5, .int (i3_5 + 1))], [], M)) rfl rfl rfl ?_
              exact ih_3 (i3_5 + 1) (loop_inc (Int32.not_le.mp c_6) hn_3) (by rw [inc_lt (Int32.not_le.mp c_6)]; omega) 
            · have c_37 : ¬ (u8 = 0) := of_decide_eq_false c_37
              refine ml_blk 2 (S' := (43, [(6, .ref b1), (0, .ref p), (1, .ref mm), (2, .int x2), (3, .int x3), (4, .int x4), (5, .int i3_5)], [.ref b1, .ref p], M)) rfl ?_
              refine tg_int rfl hS.1 h2 (by decide) rfl (fun u10 g11 => ?_)
              show ml _ _ _ (46, [(6, .ref b1), (0, .ref p), (1, .ref mm), (2, .int x2), (3, .int x3), (4, .int x4), (5, .int i3_5)], [.int u10, .ref p], M) _
              refine ml_st (S' := (48, [(6, .ref b1), (0, .ref p), (1, .ref mm), (2, .int x2), (3, .int x3), (4, .int x4), (5, .int i3_5)], [.int x4, .int u10, .ref p], M)) rfl rfl rfl ?_
              refine ml_call (a := [.ref p, .int u10, .int x4]) (rest := []) rfl (okc_t rfl rfl rfl hS.1 hY0 (by decide)) rfl rfl (tq_sameText hS.1 hY0 (by omega)) (fun v12 M13 h14 => ?_)
              obtain ⟨⟨u15, rfl, z16⟩, h14⟩ := h14
              rw [h14]
              show ml _ _ _ (51, [(6, .ref b1), (0, .ref p), (1, .ref mm), (2, .int x2), (3, .int x3), (4, .int x4), (5, .int i3_5)], [.int u15], M) _
              refine ml_if (S1 := (57, [(0, .ref p), (1, .ref mm), (2, .int x2), (3, .int x3), (4, .int x4), (5, .int i3_5)], [], M)) (S2 := (54, [(6, .ref b1), (0, .ref p), (1, .ref mm), (2, .int x2), (3, .int x3), (4, .int x4), (5, .int i3_5)], [], M)) rfl rfl rfl (fun c_51 => ?_) (fun c_51 => ?_)
              · have c_51 : u15 = 0 := of_decide_eq_true c_51
                refine ml_st (S' := (60, [(5, .int (i3_5 + 1)), (0, .ref p), (1, .ref mm), (2, .int x2), (3, .int x3), (4, .int x4)], [], M)) rfl rfl rfl ?_
                refine ml_st (S' := (3, [(0, .ref p), (1, .ref mm), (2, .int x2), (3, .int x3), (4, .int x4), (5, .int (i3_5 + 1))], [], M)) rfl rfl rfl ?_
                exact ih_3 (i3_5 + 1) (loop_inc (Int32.not_le.mp c_6) hn_3) (by rw [inc_lt (Int32.not_le.mp c_6)]; omega) 
              · have c_51 : ¬ (u15 = 0) := of_decide_eq_false c_51
                refine ml_st (S' := (56, [(6, .ref b1), (0, .ref p), (1, .ref mm), (2, .int x2), (3, .int x3), (4, .int x4), (5, .int i3_5)], [.int i3_5], M)) rfl rfl rfl ?_
                exact ml_ret rfl (rfl) (⟨⟨_, rfl⟩, rfl⟩)
  exact L_3 _ 0 (Nat.le_refl _) (by decide) 
