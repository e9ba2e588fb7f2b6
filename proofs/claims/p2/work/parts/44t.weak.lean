set_option maxHeartbeats 2000000 in
theorem tw_Cl_interfacesHold {g : xe_G} {M : mi_H} {Y : yT} {a c b p vd ac da n : Nat} {pp : List Nat}  (hW : WF g Y M) (hY0 : Y.1 a = some (2, [c, b, p, vd, ac])) (hY1 : Y.1 c = some (3, [b, da, n])) (hY2 : Y.1 b = some (1, [da, n])) (hY3 : Y.1 p = some (7, pp)) (hY4 : Y.1 vd = some (10, [])) (hY5 : Y.1 ac = some (0, [c, b, p, vd])) {d : Nat} (hd : 4 ≤ d) : mt (mT g) d 62 [.ref a] M (qZ g Y M) := by
  obtain ⟨d, rfl⟩ : ∃ e, d = e + 1 := ⟨d - 1, by omega⟩
  have hS : st g Y M M := st.rf hW
  refine mt_in (b := mb_62 g) rfl rfl ?_
  show ml (mT g) d (mb_62 g).2 (0, [(0, .ref a)], [], M) _
  refine ml_st (S' := (1, [(0, .ref a)], [.ref a], M)) rfl rfl rfl ?_
  refine tg_ref (S' := (4, [(0, .ref a)], [.ref c], M)) rfl hS.1 hY0 (by decide) rfl rfl ?_
  refine tg_int rfl hS.1 hY1 (by decide) rfl (fun u1 g2 => ?_)
  show ml _ _ _ (7, [(0, .ref a)], [.int u1], M) _
  refine ml_blk 2 (S' := (10, [(0, .ref a)], [.int (u1 + 8)], M)) rfl ?_
  refine ml_st (S' := (11, [(1, .int (u1 + 8)), (0, .ref a)], [], M)) rfl rfl rfl ?_
  refine ml_st (S' := (12, [(1, .int (u1 + 8)), (0, .ref a)], [.int 0], M)) rfl rfl rfl ?_
  refine ml_st (S' := (13, [(0, .ref a), (1, .int (u1 + 8)), (2, .int 0)], [], M)) rfl rfl rfl ?_
  have L_13 : ∀ (n_13 : Nat) (i13_2 : Int32), (2147483648 - i13_2.toInt).toNat ≤ n_13 → ml (mT g) d (mb_62 g).2 (13, [(0, .ref a), (1, .int (u1 + 8)), (2, .int i13_2)], [], M) (qZ g Y M) := by
    intro n_13
    induction n_13 with
    | zero => intro i13_2 hn; exact (loop_zero hn).elim
    | succ n_13 ih_13 =>
      intro i13_2 hn_13
      refine ml_blk 2 (S' := (15, [(0, .ref a), (1, .int (u1 + 8)), (2, .int i13_2)], [.ref a, .int i13_2], M)) rfl ?_
      refine tg_ref (S' := (18, [(0, .ref a), (1, .int (u1 + 8)), (2, .int i13_2)], [.ref c, .int i13_2], M)) rfl hS.1 hY0 (by decide) rfl rfl ?_
      refine tg_int rfl hS.1 hY1 (by decide) rfl (fun u3 g4 => ?_)
      show ml _ _ _ (21, [(0, .ref a), (1, .int (u1 + 8)), (2, .int i13_2)], [.int u3, .int i13_2], M) _
      refine ml_if2 (S1 := (141, [(0, .ref a), (1, .int (u1 + 8)), (2, .int i13_2)], [], M)) (S2 := (24, [(0, .ref a), (1, .int (u1 + 8)), (2, .int i13_2)], [], M)) rfl rfl rfl (fun c_21 => ?_) (fun c_21 => ?_)
      · have c_21 : u3 ≤ i13_2 := of_decide_eq_true c_21
        refine ml_st (S' := (142, [(0, .ref a), (1, .int (u1 + 8)), (2, .int i13_2)], [.int 1], M)) rfl rfl rfl ?_
        exact ml_ret rfl (r_z (Or.inr rfl)) (⟨⟨_, rfl, Or.inr rfl⟩, hS⟩)
      · have c_21 : ¬ (u3 ≤ i13_2) := of_decide_eq_false c_21
        refine ml_st (S' := (25, [(0, .ref a), (1, .int (u1 + 8)), (2, .int i13_2)], [.ref a], M)) rfl rfl rfl ?_
        refine tg_ref (S' := (28, [(0, .ref a), (1, .int (u1 + 8)), (2, .int i13_2)], [.ref b], M)) rfl hS.1 hY0 (by decide) rfl rfl ?_
        refine ml_blk 3 (S' := (31, [(0, .ref a), (1, .int (u1 + 8)), (2, .int i13_2)], [.int i13_2, .int 2, .int (u1 + 8), .ref b], M)) rfl ?_
        refine ml_blk 2 (S' := (33, [(0, .ref a), (1, .int (u1 + 8)), (2, .int i13_2)], [.int ((u1 + 8) + (2 * i13_2)), .ref b], M)) rfl ?_
        refine ml_call (a := [.ref b, .int ((u1 + 8) + (2 * i13_2))]) (rest := []) rfl (okc_t rfl rfl rfl hS.1 hY2 (by decide)) rfl rfl (tq_u2 hS.1 hY2 (by omega)) (fun v5 M6 h7 => ?_)
        obtain ⟨⟨u8, rfl⟩, h7⟩ := h7
        rw [h7]
        show ml _ _ _ (36, [(0, .ref a), (1, .int (u1 + 8)), (2, .int i13_2)], [.int u8], M) _
        refine ml_st (S' := (37, [(3, .int u8), (0, .ref a), (1, .int (u1 + 8)), (2, .int i13_2)], [], M)) rfl rfl rfl ?_
        refine ml_st (S' := (38, [(3, .int u8), (0, .ref a), (1, .int (u1 + 8)), (2, .int i13_2)], [.ref a], M)) rfl rfl rfl ?_
        refine tg_ref (S' := (41, [(3, .int u8), (0, .ref a), (1, .int (u1 + 8)), (2, .int i13_2)], [.ref p], M)) rfl hS.1 hY0 (by decide) rfl rfl ?_
        refine ml_st (S' := (42, [(3, .int u8), (0, .ref a), (1, .int (u1 + 8)), (2, .int i13_2)], [.int u8, .ref p], M)) rfl rfl rfl ?_
        refine ml_call (a := [.ref p, .int u8]) (rest := []) rfl (okc_t rfl rfl rfl hS.1 hY3 (by decide)) rfl rfl (tq_isPlainClass hS.1 hY3 (by omega)) (fun v9 M10 h11 => ?_)
        obtain ⟨⟨u12, rfl, z13⟩, h11⟩ := h11
        rw [h11]
        show ml _ _ _ (45, [(3, .int u8), (0, .ref a), (1, .int (u1 + 8)), (2, .int i13_2)], [.int u12], M) _
        refine ml_if (S1 := (63, [(3, .int u8), (0, .ref a), (1, .int (u1 + 8)), (2, .int i13_2)], [], M)) (S2 := (48, [(3, .int u8), (0, .ref a), (1, .int (u1 + 8)), (2, .int i13_2)], [], M)) rfl rfl rfl (fun c_45 => ?_) (fun c_45 => ?_)
        · have c_45 : ¬ u12 = 0 := of_decide_eq_true c_45
          refine ml_st (S' := (64, [(3, .int u8), (0, .ref a), (1, .int (u1 + 8)), (2, .int i13_2)], [.int 0], M)) rfl rfl rfl ?_
          refine ml_st (S' := (66, [(0, .ref a), (1, .int (u1 + 8)), (2, .int i13_2), (3, .int u8), (4, .int 0)], [], M)) rfl rfl rfl ?_
          have L_66 : ∀ (n_66 : Nat) (i66_4 : Int32), (2147483648 - i66_4.toInt).toNat ≤ n_66 → ml (mT g) d (mb_62 g).2 (66, [(0, .ref a), (1, .int (u1 + 8)), (2, .int i13_2), (3, .int u8), (4, .int i66_4)], [], M) (qZ g Y M) := by
            intro n_66
            induction n_66 with
            | zero => intro i66_4 hn; exact (loop_zero hn).elim
            | succ n_66 ih_66 =>
              intro i66_4 hn_66
              refine ml_blk 2 (S' := (69, [(0, .ref a), (1, .int (u1 + 8)), (2, .int i13_2), (3, .int u8), (4, .int i66_4)], [.int i13_2, .int i66_4], M)) rfl ?_
              refine ml_if2 (S1 := (135, [(0, .ref a), (1, .int (u1 + 8)), (2, .int i13_2), (3, .int u8), (4, .int i66_4)], [], M)) (S2 := (72, [(0, .ref a), (1, .int (u1 + 8)), (2, .int i13_2), (3, .int u8), (4, .int i66_4)], [], M)) rfl rfl rfl (fun c_69 => ?_) (fun c_69 => ?_)
              · have c_69 : i13_2 ≤ i66_4 := of_decide_eq_true c_69
                refine ml_st (S' := (138, [(2, .int (i13_2 + 1)), (0, .ref a), (1, .int (u1 + 8)), (3, .int u8), (4, .int i66_4)], [], M)) rfl rfl rfl ?_
                refine ml_st (S' := (13, [(0, .ref a), (1, .int (u1 + 8)), (2, .int (i13_2 + 1))], [], M)) rfl rfl rfl ?_
                exact ih_13 (i13_2 + 1) (loop_inc (Int32.not_le.mp c_21) hn_13) 
              · have c_69 : ¬ (i13_2 ≤ i66_4) := of_decide_eq_false c_69
                refine ml_st (S' := (73, [(0, .ref a), (1, .int (u1 + 8)), (2, .int i13_2), (3, .int u8), (4, .int i66_4)], [.ref a], M)) rfl rfl rfl ?_
                refine tg_ref (S' := (76, [(0, .ref a), (1, .int (u1 + 8)), (2, .int i13_2), (3, .int u8), (4, .int i66_4)], [.ref b], M)) rfl hS.1 hY0 (by decide) rfl rfl ?_
                refine ml_blk 3 (S' := (80, [(0, .ref a), (1, .int (u1 + 8)), (2, .int i13_2), (3, .int u8), (4, .int i66_4)], [.int i66_4, .int 2, .int (u1 + 8), .ref b], M)) rfl ?_
                refine ml_blk 2 (S' := (82, [(0, .ref a), (1, .int (u1 + 8)), (2, .int i13_2), (3, .int u8), (4, .int i66_4)], [.int ((u1 + 8) + (2 * i66_4)), .ref b], M)) rfl ?_
                refine ml_call (a := [.ref b, .int ((u1 + 8) + (2 * i66_4))]) (rest := []) rfl (okc_t rfl rfl rfl hS.1 hY2 (by decide)) rfl rfl (tq_u2 hS.1 hY2 (by omega)) (fun v14 M15 h16 => ?_)
                obtain ⟨⟨u17, rfl⟩, h16⟩ := h16
                rw [h16]
                show ml _ _ _ (85, [(0, .ref a), (1, .int (u1 + 8)), (2, .int i13_2), (3, .int u8), (4, .int i66_4)], [.int u17], M) _
                refine ml_st (S' := (87, [(5, .int u17), (0, .ref a), (1, .int (u1 + 8)), (2, .int i13_2), (3, .int u8), (4, .int i66_4)], [], M)) rfl rfl rfl ?_
                refine ml_st (S' := (88, [(5, .int u17), (0, .ref a), (1, .int (u1 + 8)), (2, .int i13_2), (3, .int u8), (4, .int i66_4)], [.ref a], M)) rfl rfl rfl ?_
                refine tg_ref (S' := (91, [(5, .int u17), (0, .ref a), (1, .int (u1 + 8)), (2, .int i13_2), (3, .int u8), (4, .int i66_4)], [.ref p], M)) rfl hS.1 hY0 (by decide) rfl rfl ?_
                refine ml_st (S' := (92, [(5, .int u17), (0, .ref a), (1, .int (u1 + 8)), (2, .int i13_2), (3, .int u8), (4, .int i66_4)], [.ref a, .ref p], M)) rfl rfl rfl ?_
                refine tg_ref (S' := (95, [(5, .int u17), (0, .ref a), (1, .int (u1 + 8)), (2, .int i13_2), (3, .int u8), (4, .int i66_4)], [.ref p, .ref p], M)) rfl hS.1 hY0 (by decide) rfl rfl ?_
                refine ml_st (S' := (97, [(5, .int u17), (0, .ref a), (1, .int (u1 + 8)), (2, .int i13_2), (3, .int u8), (4, .int i66_4)], [.int u17, .ref p, .ref p], M)) rfl rfl rfl ?_
                refine ml_call (a := [.ref p, .int u17]) (rest := [.ref p]) rfl (okc_t rfl rfl rfl hS.1 hY3 (by decide)) rfl rfl (tq_firstIndex hS.1 hY3 (by omega)) (fun v18 M19 h20 => ?_)
                obtain ⟨⟨u21, rfl⟩, h20⟩ := h20
                rw [h20]
                show ml _ _ _ (100, [(5, .int u17), (0, .ref a), (1, .int (u1 + 8)), (2, .int i13_2), (3, .int u8), (4, .int i66_4)], [.int u21, .ref p], M) _
                refine ml_st (S' := (101, [(5, .int u17), (0, .ref a), (1, .int (u1 + 8)), (2, .int i13_2), (3, .int u8), (4, .int i66_4)], [.ref a, .int u21, .ref p], M)) rfl rfl rfl ?_
                refine tg_ref (S' := (104, [(5, .int u17), (0, .ref a), (1, .int (u1 + 8)), (2, .int i13_2), (3, .int u8), (4, .int i66_4)], [.ref p, .int u21, .ref p], M)) rfl hS.1 hY0 (by decide) rfl rfl ?_
                refine ml_st (S' := (105, [(5, .int u17), (0, .ref a), (1, .int (u1 + 8)), (2, .int i13_2), (3, .int u8), (4, .int i66_4)], [.int u8, .ref p, .int u21, .ref p], M)) rfl rfl rfl ?_
                refine ml_call (a := [.ref p, .int u8]) (rest := [.int u21, .ref p]) rfl (okc_t rfl rfl rfl hS.1 hY3 (by decide)) rfl rfl (tq_firstIndex hS.1 hY3 (by omega)) (fun v22 M23 h24 => ?_)
                obtain ⟨⟨u25, rfl⟩, h24⟩ := h24
                rw [h24]
                show ml _ _ _ (108, [(5, .int u17), (0, .ref a), (1, .int (u1 + 8)), (2, .int i13_2), (3, .int u8), (4, .int i66_4)], [.int u25, .int u21, .ref p], M) _
                refine ml_call (a := [.ref p, .int u21, .int u25]) (rest := []) rfl (okc_t rfl rfl rfl hS.1 hY3 (by decide)) rfl rfl (tq_sameText hS.1 hY3 (by omega)) (fun v26 M27 h28 => ?_)
                obtain ⟨⟨u29, rfl, z30⟩, h28⟩ := h28
                rw [h28]
                show ml _ _ _ (111, [(5, .int u17), (0, .ref a), (1, .int (u1 + 8)), (2, .int i13_2), (3, .int u8), (4, .int i66_4)], [.int u29], M) _
                refine ml_if (S1 := (129, [(5, .int u17), (0, .ref a), (1, .int (u1 + 8)), (2, .int i13_2), (3, .int u8), (4, .int i66_4)], [], M)) (S2 := (114, [(5, .int u17), (0, .ref a), (1, .int (u1 + 8)), (2, .int i13_2), (3, .int u8), (4, .int i66_4)], [], M)) rfl rfl rfl (fun c_111 => ?_) (fun c_111 => ?_)
                · have c_111 : u29 = 0 := of_decide_eq_true c_111
                  refine ml_st (S' := (132, [(4, .int (i66_4 + 1)), (5, .int u17), (0, .ref a), (1, .int (u1 + 8)), (2, .int i13_2), (3, .int u8)], [], M)) rfl rfl rfl ?_
                  refine ml_st (S' := (66, [(0, .ref a), (1, .int (u1 + 8)), (2, .int i13_2), (3, .int u8), (4, .int (i66_4 + 1))], [], M)) rfl rfl rfl ?_
                  exact ih_66 (i66_4 + 1) (loop_inc (Int32.not_le.mp c_69) hn_66) 
                · have c_111 : ¬ (u29 = 0) := of_decide_eq_false c_111
                  refine ml_st (S' := (115, [(5, .int u17), (0, .ref a), (1, .int (u1 + 8)), (2, .int i13_2), (3, .int u8), (4, .int i66_4)], [.ref a], M)) rfl rfl rfl ?_
                  refine tg_ref (S' := (118, [(5, .int u17), (0, .ref a), (1, .int (u1 + 8)), (2, .int i13_2), (3, .int u8), (4, .int i66_4)], [.ref vd], M)) rfl hS.1 hY0 (by decide) rfl rfl ?_
                  refine ml_blk 3 (S' := (122, [(5, .int u17), (0, .ref a), (1, .int (u1 + 8)), (2, .int i13_2), (3, .int u8), (4, .int i66_4)], [.int 2, .int (u1 + 8), .int 18, .ref vd], M)) rfl ?_
                  refine ml_blk 3 (S' := (125, [(5, .int u17), (0, .ref a), (1, .int (u1 + 8)), (2, .int i13_2), (3, .int u8), (4, .int i66_4)], [.int ((u1 + 8) + (2 * i13_2)), .int 18, .ref vd], M)) rfl ?_
                  refine ml_call (a := [.ref vd, .int 18, .int ((u1 + 8) + (2 * i13_2))]) (rest := []) rfl (okc_t rfl rfl rfl hS.1 hY4 (by decide)) rfl rfl (tw_Ve_wrong hS.1 hY4 (by omega)) (fun v31 M32 h33 => ?_)
                  obtain ⟨rfl, h33⟩ := h33
                  have hS35 := hS.tr h33.1
                  show ml _ _ _ (128, [(5, .int u17), (0, .ref a), (1, .int (u1 + 8)), (2, .int i13_2), (3, .int u8), (4, .int i66_4)], [.int 0], M32) _
                  exact ml_ret rfl (r_z (Or.inl rfl)) (⟨⟨_, rfl, Or.inl rfl⟩, hS35⟩)
          exact L_66 _ 0 (Nat.le_refl _) 
        · have c_45 : ¬ (¬ u12 = 0) := of_decide_eq_false c_45
          refine ml_st (S' := (49, [(3, .int u8), (0, .ref a), (1, .int (u1 + 8)), (2, .int i13_2)], [.ref a], M)) rfl rfl rfl ?_
          refine tg_ref (S' := (52, [(3, .int u8), (0, .ref a), (1, .int (u1 + 8)), (2, .int i13_2)], [.ref vd], M)) rfl hS.1 hY0 (by decide) rfl rfl ?_
          refine ml_blk 3 (S' := (56, [(3, .int u8), (0, .ref a), (1, .int (u1 + 8)), (2, .int i13_2)], [.int 2, .int (u1 + 8), .int 18, .ref vd], M)) rfl ?_
          refine ml_blk 3 (S' := (59, [(3, .int u8), (0, .ref a), (1, .int (u1 + 8)), (2, .int i13_2)], [.int ((u1 + 8) + (2 * i13_2)), .int 18, .ref vd], M)) rfl ?_
          refine ml_call (a := [.ref vd, .int 18, .int ((u1 + 8) + (2 * i13_2))]) (rest := []) rfl (okc_t rfl rfl rfl hS.1 hY4 (by decide)) rfl rfl (tw_Ve_wrong hS.1 hY4 (by omega)) (fun v36 M37 h38 => ?_)
          obtain ⟨rfl, h38⟩ := h38
          have hS40 := hS.tr h38.1
          show ml _ _ _ (62, [(3, .int u8), (0, .ref a), (1, .int (u1 + 8)), (2, .int i13_2)], [.int 0], M37) _
          exact ml_ret rfl (r_z (Or.inl rfl)) (⟨⟨_, rfl, Or.inl rfl⟩, hS40⟩)
  exact L_13 _ 0 (Nat.le_refl _) 
