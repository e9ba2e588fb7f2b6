/-! weak contracts: verdict, pool, pool check (laid by wip/p2/c43.py) -/
set_option maxHeartbeats 2000000 in
theorem tw_Ve_wrong {g : xe_G} {M : mi_H} {Y : yT} {vd : Nat} {x1 x2 : Int32}  (hW : WF g Y M) (hY0 : Y.1 vd = some (10, [])) {d : Nat} (hd : 1 ≤ d) : mt (mT g) d 172 [.ref vd, .int x1, .int x2] M (f0 g Y [vd] M) := by
  obtain ⟨d, rfl⟩ : ∃ e, d = e + 1 := ⟨d - 1, by omega⟩
  have hS : sf g Y [vd] M M := sf.rf hW
  refine mt_in (b := mb_172 g) rfl rfl ?_
  show ml (mT g) d (mb_172 g).2 (0, [(0, .ref vd), (1, .int x1), (2, .int x2)], [], M) _
  refine ml_blk 2 (S' := (2, [(0, .ref vd), (1, .int x1), (2, .int x2)], [.int x1, .ref vd], M)) rfl ?_
  refine tp_put rfl hS.1 hY0 (by decide) rfl (⟨_, rfl⟩) rfl rfl (fun M1 hS2 f3 => ?_)
  have hS4 := hS.put hS2 f3 (by simp)
  show ml _ _ _ (5, [(0, .ref vd), (1, .int x1), (2, .int x2)], [], M1) _
  refine ml_blk 2 (S' := (7, [(0, .ref vd), (1, .int x1), (2, .int x2)], [.int x2, .ref vd], M1)) rfl ?_
  refine tp_put rfl hS4.1 hY0 (by decide) rfl (⟨_, rfl⟩) rfl rfl (fun M5 hS6 f7 => ?_)
  have hS8 := hS4.put hS6 f7 (by simp)
  show ml _ _ _ (10, [(0, .ref vd), (1, .int x1), (2, .int x2)], [], M5) _
  refine ml_st (S' := (11, [(0, .ref vd), (1, .int x1), (2, .int x2)], [.int 0], M5)) rfl rfl rfl ?_
  exact ml_ret rfl (r_z (Or.inl rfl)) (⟨rfl, hS8⟩)
set_option maxHeartbeats 2000000 in
theorem tw_J_bitCount {g : xe_G} {M : mi_H} {Y : yT} {x1 : Int32}  (hW : WF g Y M) {d : Nat} (hd : 1 ≤ d) : mt (mT g) d 257 [.int x1] M (pI M) := by
  obtain ⟨d, rfl⟩ : ∃ e, d = e + 1 := ⟨d - 1, by omega⟩
  have hS : st g Y M M := st.rf hW
  refine mt_in (b := mb_257 g) rfl rfl ?_
  show ml (mT g) d (mb_257 g).2 (0, [(0, .int x1)], [], M) _
  refine ml_blk 3 (S' := (3, [(0, .int x1)], [.int 1, .int x1, .int x1], M)) rfl ?_
  refine ml_blk 3 (S' := (8, [(0, .int x1)], [.int ((((Int32.toUInt32 x1) >>> ((Int32.toUInt32 1) &&& Int32.toUInt32 31)).toInt32) &&& 1431655765), .int x1], M)) rfl ?_
  refine ml_st (S' := (9, [(0, .int x1)], [.int (x1 - ((((Int32.toUInt32 x1) >>> ((Int32.toUInt32 1) &&& Int32.toUInt32 31)).toInt32) &&& 1431655765))], M)) rfl rfl rfl ?_
  refine ml_st (S' := (10, [(0, .int (x1 - ((((Int32.toUInt32 x1) >>> ((Int32.toUInt32 1) &&& Int32.toUInt32 31)).toInt32) &&& 1431655765)))], [], M)) rfl rfl rfl ?_
  refine ml_blk 3 (S' := (15, [(0, .int (x1 - ((((Int32.toUInt32 x1) >>> ((Int32.toUInt32 1) &&& Int32.toUInt32 31)).toInt32) &&& 1431655765)))], [.int ((x1 - ((((Int32.toUInt32 x1) >>> ((Int32.toUInt32 1) &&& Int32.toUInt32 31)).toInt32) &&& 1431655765)) &&& 858993459)], M)) rfl ?_
  refine ml_blk 3 (S' := (18, [(0, .int (x1 - ((((Int32.toUInt32 x1) >>> ((Int32.toUInt32 1) &&& Int32.toUInt32 31)).toInt32) &&& 1431655765)))], [.int (((Int32.toUInt32 (x1 - ((((Int32.toUInt32 x1) >>> ((Int32.toUInt32 1) &&& Int32.toUInt32 31)).toInt32) &&& 1431655765))) >>> ((Int32.toUInt32 2) &&& Int32.toUInt32 31)).toInt32), .int ((x1 - ((((Int32.toUInt32 x1) >>> ((Int32.toUInt32 1) &&& Int32.toUInt32 31)).toInt32) &&& 1431655765)) &&& 858993459)], M)) rfl ?_
  generalize (((Int32.toUInt32 (x1 - ((((Int32.toUInt32 x1) >>> ((Int32.toUInt32 1) &&& Int32.toUInt32 31)).toInt32) &&& 1431655765))) >>> ((Int32.toUInt32 2) &&& Int32.toUInt32 31)).toInt32) = u1
  refine ml_blk 3 (S' := (23, [(0, .int (x1 - ((((Int32.toUInt32 x1) >>> ((Int32.toUInt32 1) &&& Int32.toUInt32 31)).toInt32) &&& 1431655765)))], [.int (((x1 - ((((Int32.toUInt32 x1) >>> ((Int32.toUInt32 1) &&& Int32.toUInt32 31)).toInt32) &&& 1431655765)) &&& 858993459) + (u1 &&& 858993459))], M)) rfl ?_
  refine ml_st (S' := (24, [(0, .int (((x1 - ((((Int32.toUInt32 x1) >>> ((Int32.toUInt32 1) &&& Int32.toUInt32 31)).toInt32) &&& 1431655765)) &&& 858993459) + (u1 &&& 858993459)))], [], M)) rfl rfl rfl ?_
  refine ml_blk 3 (S' := (27, [(0, .int (((x1 - ((((Int32.toUInt32 x1) >>> ((Int32.toUInt32 1) &&& Int32.toUInt32 31)).toInt32) &&& 1431655765)) &&& 858993459) + (u1 &&& 858993459)))], [.int 4, .int (((x1 - ((((Int32.toUInt32 x1) >>> ((Int32.toUInt32 1) &&& Int32.toUInt32 31)).toInt32) &&& 1431655765)) &&& 858993459) + (u1 &&& 858993459)), .int (((x1 - ((((Int32.toUInt32 x1) >>> ((Int32.toUInt32 1) &&& Int32.toUInt32 31)).toInt32) &&& 1431655765)) &&& 858993459) + (u1 &&& 858993459))], M)) rfl ?_
  refine ml_st (S' := (28, [(0, .int (((x1 - ((((Int32.toUInt32 x1) >>> ((Int32.toUInt32 1) &&& Int32.toUInt32 31)).toInt32) &&& 1431655765)) &&& 858993459) + (u1 &&& 858993459)))], [.int (((Int32.toUInt32 (((x1 - ((((Int32.toUInt32 x1) >>> ((Int32.toUInt32 1) &&& Int32.toUInt32 31)).toInt32) &&& 1431655765)) &&& 858993459) + (u1 &&& 858993459))) >>> ((Int32.toUInt32 4) &&& Int32.toUInt32 31)).toInt32), .int (((x1 - ((((Int32.toUInt32 x1) >>> ((Int32.toUInt32 1) &&& Int32.toUInt32 31)).toInt32) &&& 1431655765)) &&& 858993459) + (u1 &&& 858993459))], M)) rfl rfl rfl ?_
  generalize (((Int32.toUInt32 (((x1 - ((((Int32.toUInt32 x1) >>> ((Int32.toUInt32 1) &&& Int32.toUInt32 31)).toInt32) &&& 1431655765)) &&& 858993459) + (u1 &&& 858993459))) >>> ((Int32.toUInt32 4) &&& Int32.toUInt32 31)).toInt32) = u2
  refine ml_blk 3 (S' := (33, [(0, .int (((x1 - ((((Int32.toUInt32 x1) >>> ((Int32.toUInt32 1) &&& Int32.toUInt32 31)).toInt32) &&& 1431655765)) &&& 858993459) + (u1 &&& 858993459)))], [.int (((((x1 - ((((Int32.toUInt32 x1) >>> ((Int32.toUInt32 1) &&& Int32.toUInt32 31)).toInt32) &&& 1431655765)) &&& 858993459) + (u1 &&& 858993459)) + u2) &&& 252645135)], M)) rfl ?_
  generalize (((((x1 - ((((Int32.toUInt32 x1) >>> ((Int32.toUInt32 1) &&& Int32.toUInt32 31)).toInt32) &&& 1431655765)) &&& 858993459) + (u1 &&& 858993459)) + u2) &&& 252645135) = u3
  refine ml_st (S' := (34, [(0, .int u3)], [], M)) rfl rfl rfl ?_
  refine ml_blk 3 (S' := (38, [(0, .int u3)], [.int 8, .int u3, .int u3], M)) rfl ?_
  refine ml_blk 2 (S' := (40, [(0, .int u3)], [.int (u3 + (((Int32.toUInt32 u3) >>> ((Int32.toUInt32 8) &&& Int32.toUInt32 31)).toInt32))], M)) rfl ?_
  refine ml_st (S' := (41, [(0, .int (u3 + (((Int32.toUInt32 u3) >>> ((Int32.toUInt32 8) &&& Int32.toUInt32 31)).toInt32)))], [], M)) rfl rfl rfl ?_
  refine ml_blk 3 (S' := (45, [(0, .int (u3 + (((Int32.toUInt32 u3) >>> ((Int32.toUInt32 8) &&& Int32.toUInt32 31)).toInt32)))], [.int 16, .int (u3 + (((Int32.toUInt32 u3) >>> ((Int32.toUInt32 8) &&& Int32.toUInt32 31)).toInt32)), .int (u3 + (((Int32.toUInt32 u3) >>> ((Int32.toUInt32 8) &&& Int32.toUInt32 31)).toInt32))], M)) rfl ?_
  refine ml_st (S' := (46, [(0, .int (u3 + (((Int32.toUInt32 u3) >>> ((Int32.toUInt32 8) &&& Int32.toUInt32 31)).toInt32)))], [.int (((Int32.toUInt32 (u3 + (((Int32.toUInt32 u3) >>> ((Int32.toUInt32 8) &&& Int32.toUInt32 31)).toInt32))) >>> ((Int32.toUInt32 16) &&& Int32.toUInt32 31)).toInt32), .int (u3 + (((Int32.toUInt32 u3) >>> ((Int32.toUInt32 8) &&& Int32.toUInt32 31)).toInt32))], M)) rfl rfl rfl ?_
  generalize (((Int32.toUInt32 (u3 + (((Int32.toUInt32 u3) >>> ((Int32.toUInt32 8) &&& Int32.toUInt32 31)).toInt32))) >>> ((Int32.toUInt32 16) &&& Int32.toUInt32 31)).toInt32) = u4
  refine ml_st (S' := (47, [(0, .int (u3 + (((Int32.toUInt32 u3) >>> ((Int32.toUInt32 8) &&& Int32.toUInt32 31)).toInt32)))], [.int ((u3 + (((Int32.toUInt32 u3) >>> ((Int32.toUInt32 8) &&& Int32.toUInt32 31)).toInt32)) + u4)], M)) rfl rfl rfl ?_
  refine ml_st (S' := (48, [(0, .int ((u3 + (((Int32.toUInt32 u3) >>> ((Int32.toUInt32 8) &&& Int32.toUInt32 31)).toInt32)) + u4))], [], M)) rfl rfl rfl ?_
  refine ml_blk 3 (S' := (52, [(0, .int ((u3 + (((Int32.toUInt32 u3) >>> ((Int32.toUInt32 8) &&& Int32.toUInt32 31)).toInt32)) + u4))], [.int (((u3 + (((Int32.toUInt32 u3) >>> ((Int32.toUInt32 8) &&& Int32.toUInt32 31)).toInt32)) + u4) &&& 63)], M)) rfl ?_
  exact ml_ret rfl (rfl) (⟨⟨_, rfl⟩, rfl⟩)
set_option maxHeartbeats 2000000 in
theorem tw_Po_namesInit {g : xe_G} {M : mi_H} {Y : yT} {p : Nat} {pp : List Nat} {x1 : Int32}  (hW : WF g Y M) (hY0 : Y.1 p = some (7, pp)) {d : Nat} (hd : 3 ≤ d) : mt (mT g) d 129 [.ref p, .int x1] M (pZ M) := by
  obtain ⟨d, rfl⟩ : ∃ e, d = e + 1 := ⟨d - 1, by omega⟩
  have hS : st g Y M M := st.rf hW
  refine mt_in (b := mb_129 g) rfl rfl ?_
  show ml (mT g) d (mb_129 g).2 (0, [(0, .ref p), (1, .int x1)], [], M) _
  refine ml_blk 3 (S' := (3, [(0, .ref p), (1, .int x1)], [.int x1, .ref p, .ref p], M)) rfl ?_
  refine ml_call (a := [.ref p, .int x1]) (rest := [.ref p]) rfl (okc_t rfl rfl rfl hS.1 hY0 (by decide)) rfl rfl (tq_nameOf hS.1 hY0 (by omega)) (fun v1 M2 h3 => ?_)
  obtain ⟨⟨u4, rfl⟩, h3⟩ := h3
  rw [h3]
  show ml _ _ _ (6, [(0, .ref p), (1, .int x1)], [.int u4, .ref p], M) _
  refine ml_st (S' := (8, [(0, .ref p), (1, .int x1)], [.ref (g.2.1 14), .int u4, .ref p], M)) rfl rfl rfl ?_
  refine ml_call (a := [.ref p, .int u4, .ref (g.2.1 14)]) (rest := []) rfl (okc_t rfl rfl rfl hS.1 hY0 (by decide)) rfl rfl (tq_textIs (lk := 14) hS.1 hY0 (by decide) (by omega)) (fun v5 M6 h7 => ?_)
  obtain ⟨⟨x8, rfl, z9⟩, h7⟩ := h7
  rw [h7]
  show ml _ _ _ (11, [(0, .ref p), (1, .int x1)], [.int x8], M) _
  exact ml_ret rfl (r_z (z9)) (⟨⟨_, rfl, z9⟩, rfl⟩)
set_option maxHeartbeats 2000000 in
theorem tw_Po_isMember {g : xe_G} {M : mi_H} {Y : yT} {a p vd : Nat} {pp : List Nat} {x1 : Int32}  (hW : WF g Y M) (hY0 : Y.1 a = some (8, [p, vd])) (hY1 : Y.1 p = some (7, pp)) (hY2 : Y.1 vd = some (10, [])) {d : Nat} (hd : 2 ≤ d) : mt (mT g) d 148 [.ref a, .int x1] M (pZ M) := by
  obtain ⟨d, rfl⟩ : ∃ e, d = e + 1 := ⟨d - 1, by omega⟩
  have hS : st g Y M M := st.rf hW
  refine mt_in (b := mb_148 g) rfl rfl ?_
  show ml (mT g) d (mb_148 g).2 (0, [(0, .ref a), (1, .int x1)], [], M) _
  refine ml_st (S' := (1, [(0, .ref a), (1, .int x1)], [.ref a], M)) rfl rfl rfl ?_
  refine tg_ref (S' := (4, [(0, .ref a), (1, .int x1)], [.ref p], M)) rfl hS.1 hY0 (by decide) rfl rfl ?_
  refine ml_st (S' := (5, [(0, .ref a), (1, .int x1)], [.int x1, .ref p], M)) rfl rfl rfl ?_
  refine ml_call (a := [.ref p, .int x1]) (rest := []) rfl (okc_t rfl rfl rfl hS.1 hY1 (by decide)) rfl rfl (tq_tagOf hS.1 hY1 (by omega)) (fun v1 M2 h3 => ?_)
  obtain ⟨⟨u4, rfl⟩, h3⟩ := h3
  rw [h3]
  show ml _ _ _ (8, [(0, .ref a), (1, .int x1)], [.int u4], M) _
  refine ml_st (S' := (9, [(2, .int u4), (0, .ref a), (1, .int x1)], [], M)) rfl rfl rfl ?_
  refine ml_blk 2 (S' := (12, [(2, .int u4), (0, .ref a), (1, .int x1)], [.int 9, .int u4], M)) rfl ?_
  refine ml_if2 (S1 := (27, [], [], M)) (S2 := (15, [(2, .int u4), (0, .ref a), (1, .int x1)], [], M)) rfl rfl rfl (fun c_12 => ?_) (fun c_12 => ?_)
  · have c_12 : u4 = 9 := of_decide_eq_true c_12
    refine ml_st (S' := (28, [], [.int 1], M)) rfl rfl rfl ?_
    refine ml_st (S' := (32, [], [.int 1], M)) rfl rfl rfl ?_
    exact ml_ret rfl (r_z (Or.inr rfl)) (⟨⟨_, rfl, Or.inr rfl⟩, rfl⟩)
  · have c_12 : ¬ (u4 = 9) := of_decide_eq_false c_12
    refine ml_blk 2 (S' := (18, [(2, .int u4), (0, .ref a), (1, .int x1)], [.int 10, .int u4], M)) rfl ?_
    refine ml_if2 (S1 := (27, [], [], M)) (S2 := (21, [(2, .int u4), (0, .ref a), (1, .int x1)], [], M)) rfl rfl rfl (fun c_18 => ?_) (fun c_18 => ?_)
    · have c_18 : u4 = 10 := of_decide_eq_true c_18
      refine ml_st (S' := (28, [], [.int 1], M)) rfl rfl rfl ?_
      refine ml_st (S' := (32, [], [.int 1], M)) rfl rfl rfl ?_
      exact ml_ret rfl (r_z (Or.inr rfl)) (⟨⟨_, rfl, Or.inr rfl⟩, rfl⟩)
    · have c_18 : ¬ (u4 = 10) := of_decide_eq_false c_18
      refine ml_blk 2 (S' := (24, [(2, .int u4), (0, .ref a), (1, .int x1)], [.int 11, .int u4], M)) rfl ?_
      refine ml_if2 (S1 := (31, [(2, .int u4), (0, .ref a), (1, .int x1)], [], M)) (S2 := (27, [], [], M)) rfl rfl rfl (fun c_24 => ?_) (fun c_24 => ?_)
      · have c_24 : ¬ u4 = 11 := of_decide_eq_true c_24
        refine ml_st (S' := (32, [], [.int 0], M)) rfl rfl rfl ?_
        exact ml_ret rfl (r_z (Or.inl rfl)) (⟨⟨_, rfl, Or.inl rfl⟩, rfl⟩)
      · have c_24 : ¬ (¬ u4 = 11) := of_decide_eq_false c_24
        refine ml_st (S' := (28, [], [.int 1], M)) rfl rfl rfl ?_
        refine ml_st (S' := (32, [], [.int 1], M)) rfl rfl rfl ?_
        exact ml_ret rfl (r_z (Or.inr rfl)) (⟨⟨_, rfl, Or.inr rfl⟩, rfl⟩)
set_option maxHeartbeats 2000000 in
theorem tw_Po_pairHolds {g : xe_G} {M : mi_H} {Y : yT} {a p vd : Nat} {pp : List Nat} {x1 : Int32}  (hW : WF g Y M) (hY0 : Y.1 a = some (8, [p, vd])) (hY1 : Y.1 p = some (7, pp)) (hY2 : Y.1 vd = some (10, [])) {d : Nat} (hd : 2 ≤ d) : mt (mT g) d 153 [.ref a, .int x1] M (pZ M) := by
  obtain ⟨d, rfl⟩ : ∃ e, d = e + 1 := ⟨d - 1, by omega⟩
  have hS : st g Y M M := st.rf hW
  refine mt_in (b := mb_153 g) rfl rfl ?_
  show ml (mT g) d (mb_153 g).2 (0, [(0, .ref a), (1, .int x1)], [], M) _
  refine ml_st (S' := (1, [(0, .ref a), (1, .int x1)], [.ref a], M)) rfl rfl rfl ?_
  refine tg_ref (S' := (4, [(0, .ref a), (1, .int x1)], [.ref p], M)) rfl hS.1 hY0 (by decide) rfl rfl ?_
  refine ml_st (S' := (5, [(0, .ref a), (1, .int x1)], [.int x1, .ref p], M)) rfl rfl rfl ?_
  refine ml_call (a := [.ref p, .int x1]) (rest := []) rfl (okc_t rfl rfl rfl hS.1 hY1 (by decide)) rfl rfl (tq_tagOf hS.1 hY1 (by omega)) (fun v1 M2 h3 => ?_)
  obtain ⟨⟨u4, rfl⟩, h3⟩ := h3
  rw [h3]
  show ml _ _ _ (8, [(0, .ref a), (1, .int x1)], [.int u4], M) _
  refine ml_st (S' := (10, [(0, .ref a), (1, .int x1)], [.int 12, .int u4], M)) rfl rfl rfl ?_
  refine ml_if2 (S1 := (55, [], [], M)) (S2 := (13, [(0, .ref a), (1, .int x1)], [], M)) rfl rfl rfl (fun c_10 => ?_) (fun c_10 => ?_)
  · have c_10 : ¬ u4 = 12 := of_decide_eq_true c_10
    refine ml_st (S' := (56, [], [.int 0], M)) rfl rfl rfl ?_
    exact ml_ret rfl (r_z (Or.inl rfl)) (⟨⟨_, rfl, Or.inl rfl⟩, rfl⟩)
  · have c_10 : ¬ (¬ u4 = 12) := of_decide_eq_false c_10
    refine ml_st (S' := (14, [(0, .ref a), (1, .int x1)], [.ref a], M)) rfl rfl rfl ?_
    refine tg_ref (S' := (17, [(0, .ref a), (1, .int x1)], [.ref p], M)) rfl hS.1 hY0 (by decide) rfl rfl ?_
    refine ml_st (S' := (18, [(0, .ref a), (1, .int x1)], [.ref a, .ref p], M)) rfl rfl rfl ?_
    refine tg_ref (S' := (21, [(0, .ref a), (1, .int x1)], [.ref p, .ref p], M)) rfl hS.1 hY0 (by decide) rfl rfl ?_
    refine ml_st (S' := (22, [(0, .ref a), (1, .int x1)], [.int x1, .ref p, .ref p], M)) rfl rfl rfl ?_
    refine ml_call (a := [.ref p, .int x1]) (rest := [.ref p]) rfl (okc_t rfl rfl rfl hS.1 hY1 (by decide)) rfl rfl (tq_firstIndex hS.1 hY1 (by omega)) (fun v5 M6 h7 => ?_)
    obtain ⟨⟨u8, rfl⟩, h7⟩ := h7
    rw [h7]
    show ml _ _ _ (25, [(0, .ref a), (1, .int x1)], [.int u8, .ref p], M) _
    refine ml_call (a := [.ref p, .int u8]) (rest := []) rfl (okc_t rfl rfl rfl hS.1 hY1 (by decide)) rfl rfl (tq_tagOf hS.1 hY1 (by omega)) (fun v9 M10 h11 => ?_)
    obtain ⟨⟨u12, rfl⟩, h11⟩ := h11
    rw [h11]
    show ml _ _ _ (28, [(0, .ref a), (1, .int x1)], [.int u12], M) _
    refine ml_st (S' := (29, [(0, .ref a), (1, .int x1)], [.int 1, .int u12], M)) rfl rfl rfl ?_
    refine ml_if2 (S1 := (55, [], [], M)) (S2 := (32, [(0, .ref a), (1, .int x1)], [], M)) rfl rfl rfl (fun c_29 => ?_) (fun c_29 => ?_)
    · have c_29 : ¬ u12 = 1 := of_decide_eq_true c_29
      refine ml_st (S' := (56, [], [.int 0], M)) rfl rfl rfl ?_
      exact ml_ret rfl (r_z (Or.inl rfl)) (⟨⟨_, rfl, Or.inl rfl⟩, rfl⟩)
    · have c_29 : ¬ (¬ u12 = 1) := of_decide_eq_false c_29
      refine ml_st (S' := (33, [(0, .ref a), (1, .int x1)], [.ref a], M)) rfl rfl rfl ?_
      refine tg_ref (S' := (36, [(0, .ref a), (1, .int x1)], [.ref p], M)) rfl hS.1 hY0 (by decide) rfl rfl ?_
      refine ml_st (S' := (37, [(0, .ref a), (1, .int x1)], [.ref a, .ref p], M)) rfl rfl rfl ?_
      refine tg_ref (S' := (40, [(0, .ref a), (1, .int x1)], [.ref p, .ref p], M)) rfl hS.1 hY0 (by decide) rfl rfl ?_
      refine ml_st (S' := (41, [(0, .ref a), (1, .int x1)], [.int x1, .ref p, .ref p], M)) rfl rfl rfl ?_
      refine ml_call (a := [.ref p, .int x1]) (rest := [.ref p]) rfl (okc_t rfl rfl rfl hS.1 hY1 (by decide)) rfl rfl (tq_secondIndex hS.1 hY1 (by omega)) (fun v13 M14 h15 => ?_)
      obtain ⟨⟨u16, rfl⟩, h15⟩ := h15
      rw [h15]
      show ml _ _ _ (44, [(0, .ref a), (1, .int x1)], [.int u16, .ref p], M) _
      refine ml_call (a := [.ref p, .int u16]) (rest := []) rfl (okc_t rfl rfl rfl hS.1 hY1 (by decide)) rfl rfl (tq_tagOf hS.1 hY1 (by omega)) (fun v17 M18 h19 => ?_)
      obtain ⟨⟨u20, rfl⟩, h19⟩ := h19
      rw [h19]
      show ml _ _ _ (47, [(0, .ref a), (1, .int x1)], [.int u20], M) _
      refine ml_st (S' := (48, [(0, .ref a), (1, .int x1)], [.int 1, .int u20], M)) rfl rfl rfl ?_
      refine ml_if2 (S1 := (55, [], [], M)) (S2 := (51, [(0, .ref a), (1, .int x1)], [], M)) rfl rfl rfl (fun c_48 => ?_) (fun c_48 => ?_)
      · have c_48 : ¬ u20 = 1 := of_decide_eq_true c_48
        refine ml_st (S' := (56, [], [.int 0], M)) rfl rfl rfl ?_
        exact ml_ret rfl (r_z (Or.inl rfl)) (⟨⟨_, rfl, Or.inl rfl⟩, rfl⟩)
      · have c_48 : ¬ (¬ u20 = 1) := of_decide_eq_false c_48
        refine ml_st (S' := (52, [(0, .ref a), (1, .int x1)], [.int 1], M)) rfl rfl rfl ?_
        refine ml_st (S' := (56, [], [.int 1], M)) rfl rfl rfl ?_
        exact ml_ret rfl (r_z (Or.inr rfl)) (⟨⟨_, rfl, Or.inr rfl⟩, rfl⟩)
set_option maxHeartbeats 2000000 in
theorem tw_Po_memberHolds {g : xe_G} {M : mi_H} {Y : yT} {a p vd : Nat} {pp : List Nat} {x1 : Int32}  (hW : WF g Y M) (hY0 : Y.1 a = some (8, [p, vd])) (hY1 : Y.1 p = some (7, pp)) (hY2 : Y.1 vd = some (10, [])) {d : Nat} (hd : 3 ≤ d) : mt (mT g) d 152 [.ref a, .int x1] M (pZ M) := by
  obtain ⟨d, rfl⟩ : ∃ e, d = e + 1 := ⟨d - 1, by omega⟩
  have hS : st g Y M M := st.rf hW
  refine mt_in (b := mb_152 g) rfl rfl ?_
  show ml (mT g) d (mb_152 g).2 (0, [(0, .ref a), (1, .int x1)], [], M) _
  refine ml_st (S' := (1, [(0, .ref a), (1, .int x1)], [.ref a], M)) rfl rfl rfl ?_
  refine tg_ref (S' := (4, [(0, .ref a), (1, .int x1)], [.ref p], M)) rfl hS.1 hY0 (by decide) rfl rfl ?_
  refine ml_st (S' := (5, [(0, .ref a), (1, .int x1)], [.int x1, .ref p], M)) rfl rfl rfl ?_
  refine ml_call (a := [.ref p, .int x1]) (rest := []) rfl (okc_t rfl rfl rfl hS.1 hY1 (by decide)) rfl rfl (tq_firstIndex hS.1 hY1 (by omega)) (fun v1 M2 h3 => ?_)
  obtain ⟨⟨u4, rfl⟩, h3⟩ := h3
  rw [h3]
  show ml _ _ _ (8, [(0, .ref a), (1, .int x1)], [.int u4], M) _
  refine ml_st (S' := (9, [(2, .int u4), (0, .ref a), (1, .int x1)], [], M)) rfl rfl rfl ?_
  refine ml_st (S' := (10, [(2, .int u4), (0, .ref a), (1, .int x1)], [.ref a], M)) rfl rfl rfl ?_
  refine tg_ref (S' := (13, [(2, .int u4), (0, .ref a), (1, .int x1)], [.ref p], M)) rfl hS.1 hY0 (by decide) rfl rfl ?_
  refine ml_st (S' := (14, [(2, .int u4), (0, .ref a), (1, .int x1)], [.int u4, .ref p], M)) rfl rfl rfl ?_
  refine ml_call (a := [.ref p, .int u4]) (rest := []) rfl (okc_t rfl rfl rfl hS.1 hY1 (by decide)) rfl rfl (tq_tagOf hS.1 hY1 (by omega)) (fun v5 M6 h7 => ?_)
  obtain ⟨⟨u8, rfl⟩, h7⟩ := h7
  rw [h7]
  show ml _ _ _ (17, [(2, .int u4), (0, .ref a), (1, .int x1)], [.int u8], M) _
  refine ml_st (S' := (19, [(2, .int u4), (0, .ref a), (1, .int x1)], [.int 7, .int u8], M)) rfl rfl rfl ?_
  refine ml_if2 (S1 := (60, [], [], M)) (S2 := (22, [(2, .int u4), (0, .ref a), (1, .int x1)], [], M)) rfl rfl rfl (fun c_19 => ?_) (fun c_19 => ?_)
  · have c_19 : ¬ u8 = 7 := of_decide_eq_true c_19
    refine ml_st (S' := (61, [], [.int 0], M)) rfl rfl rfl ?_
    exact ml_ret rfl (r_z (Or.inl rfl)) (⟨⟨_, rfl, Or.inl rfl⟩, rfl⟩)
  · have c_19 : ¬ (¬ u8 = 7) := of_decide_eq_false c_19
    refine ml_st (S' := (23, [(2, .int u4), (0, .ref a), (1, .int x1)], [.ref a], M)) rfl rfl rfl ?_
    refine tg_ref (S' := (26, [(2, .int u4), (0, .ref a), (1, .int x1)], [.ref p], M)) rfl hS.1 hY0 (by decide) rfl rfl ?_
    refine ml_st (S' := (27, [(2, .int u4), (0, .ref a), (1, .int x1)], [.ref a, .ref p], M)) rfl rfl rfl ?_
    refine tg_ref (S' := (30, [(2, .int u4), (0, .ref a), (1, .int x1)], [.ref p, .ref p], M)) rfl hS.1 hY0 (by decide) rfl rfl ?_
    refine ml_st (S' := (31, [(2, .int u4), (0, .ref a), (1, .int x1)], [.int u4, .ref p, .ref p], M)) rfl rfl rfl ?_
    refine ml_call (a := [.ref p, .int u4]) (rest := [.ref p]) rfl (okc_t rfl rfl rfl hS.1 hY1 (by decide)) rfl rfl (tq_firstIndex hS.1 hY1 (by omega)) (fun v9 M10 h11 => ?_)
    obtain ⟨⟨u12, rfl⟩, h11⟩ := h11
    rw [h11]
    show ml _ _ _ (34, [(2, .int u4), (0, .ref a), (1, .int x1)], [.int u12, .ref p], M) _
    refine ml_call (a := [.ref p, .int u12]) (rest := []) rfl (okc_t rfl rfl rfl hS.1 hY1 (by decide)) rfl rfl (tq_tagOf hS.1 hY1 (by omega)) (fun v13 M14 h15 => ?_)
    obtain ⟨⟨u16, rfl⟩, h15⟩ := h15
    rw [h15]
    show ml _ _ _ (37, [(2, .int u4), (0, .ref a), (1, .int x1)], [.int u16], M) _
    refine ml_st (S' := (38, [(2, .int u4), (0, .ref a), (1, .int x1)], [.int 1, .int u16], M)) rfl rfl rfl ?_
    refine ml_if2 (S1 := (60, [], [], M)) (S2 := (41, [(2, .int u4), (0, .ref a), (1, .int x1)], [], M)) rfl rfl rfl (fun c_38 => ?_) (fun c_38 => ?_)
    · have c_38 : ¬ u16 = 1 := of_decide_eq_true c_38
      refine ml_st (S' := (61, [], [.int 0], M)) rfl rfl rfl ?_
      exact ml_ret rfl (r_z (Or.inl rfl)) (⟨⟨_, rfl, Or.inl rfl⟩, rfl⟩)
    · have c_38 : ¬ (¬ u16 = 1) := of_decide_eq_false c_38
      refine ml_blk 2 (S' := (43, [(2, .int u4), (0, .ref a), (1, .int x1)], [.ref a, .ref a], M)) rfl ?_
      refine tg_ref (S' := (46, [(2, .int u4), (0, .ref a), (1, .int x1)], [.ref p, .ref a], M)) rfl hS.1 hY0 (by decide) rfl rfl ?_
      refine ml_st (S' := (47, [(2, .int u4), (0, .ref a), (1, .int x1)], [.int x1, .ref p, .ref a], M)) rfl rfl rfl ?_
      refine ml_call (a := [.ref p, .int x1]) (rest := [.ref a]) rfl (okc_t rfl rfl rfl hS.1 hY1 (by decide)) rfl rfl (tq_secondIndex hS.1 hY1 (by omega)) (fun v17 M18 h19 => ?_)
      obtain ⟨⟨u20, rfl⟩, h19⟩ := h19
      rw [h19]
      show ml _ _ _ (50, [(2, .int u4), (0, .ref a), (1, .int x1)], [.int u20, .ref a], M) _
      refine ml_call (a := [.ref a, .int u20]) (rest := []) rfl (okc_t rfl rfl rfl hS.1 hY0 (by decide)) rfl rfl (tw_Po_pairHolds hS.1 hY0 hY1 hY2 (by omega)) (fun v21 M22 h23 => ?_)
      obtain ⟨⟨u24, rfl, z25⟩, h23⟩ := h23
      rw [h23]
      show ml _ _ _ (53, [(2, .int u4), (0, .ref a), (1, .int x1)], [.int u24], M) _
      refine ml_if (S1 := (60, [], [], M)) (S2 := (56, [(2, .int u4), (0, .ref a), (1, .int x1)], [], M)) rfl rfl rfl (fun c_53 => ?_) (fun c_53 => ?_)
      · have c_53 : u24 = 0 := of_decide_eq_true c_53
        refine ml_st (S' := (61, [], [.int 0], M)) rfl rfl rfl ?_
        exact ml_ret rfl (r_z (Or.inl rfl)) (⟨⟨_, rfl, Or.inl rfl⟩, rfl⟩)
      · have c_53 : ¬ (u24 = 0) := of_decide_eq_false c_53
        refine ml_st (S' := (57, [(2, .int u4), (0, .ref a), (1, .int x1)], [.int 1], M)) rfl rfl rfl ?_
        refine ml_st (S' := (61, [], [.int 1], M)) rfl rfl rfl ?_
        exact ml_ret rfl (r_z (Or.inr rfl)) (⟨⟨_, rfl, Or.inr rfl⟩, rfl⟩)
set_option maxHeartbeats 2000000 in
theorem tw_Po_linksHold {g : xe_G} {M : mi_H} {Y : yT} {a p vd : Nat} {pp : List Nat} {x1 : Int32}  (hW : WF g Y M) (hY0 : Y.1 a = some (8, [p, vd])) (hY1 : Y.1 p = some (7, pp)) (hY2 : Y.1 vd = some (10, [])) {d : Nat} (hd : 4 ≤ d) : mt (mT g) d 151 [.ref a, .int x1] M (pZ M) := by
  obtain ⟨d, rfl⟩ : ∃ e, d = e + 1 := ⟨d - 1, by omega⟩
  have hS : st g Y M M := st.rf hW
  refine mt_in (b := mb_151 g) rfl rfl ?_
  show ml (mT g) d (mb_151 g).2 (0, [(0, .ref a), (1, .int x1)], [], M) _
  refine ml_st (S' := (1, [(0, .ref a), (1, .int x1)], [.ref a], M)) rfl rfl rfl ?_
  refine tg_ref (S' := (4, [(0, .ref a), (1, .int x1)], [.ref p], M)) rfl hS.1 hY0 (by decide) rfl rfl ?_
  refine ml_st (S' := (5, [(0, .ref a), (1, .int x1)], [.int x1, .ref p], M)) rfl rfl rfl ?_
  refine ml_call (a := [.ref p, .int x1]) (rest := []) rfl (okc_t rfl rfl rfl hS.1 hY1 (by decide)) rfl rfl (tq_tagOf hS.1 hY1 (by omega)) (fun v1 M2 h3 => ?_)
  obtain ⟨⟨u4, rfl⟩, h3⟩ := h3
  rw [h3]
  show ml _ _ _ (8, [(0, .ref a), (1, .int x1)], [.int u4], M) _
  refine ml_sw rfl (fun t_8 ht_8 => ?_)
  have kt_8 := ht_8
  have ht_8 : t_8 ∈ [80, 105, 111, 117, 159, 172] := mi_sw_sub ht_8 (by decide)
  simp only [List.mem_cons, List.not_mem_nil, or_false] at ht_8
  rcases ht_8 with rfl | rfl | rfl | rfl | rfl | rfl
  · show ml _ _ _ (80, [(0, .ref a), (1, .int x1)], [], M) _
    refine ml_st (S' := (81, [(0, .ref a), (1, .int x1)], [.ref a], M)) rfl rfl rfl ?_
    refine tg_ref (S' := (84, [(0, .ref a), (1, .int x1)], [.ref p], M)) rfl hS.1 hY0 (by decide) rfl rfl ?_
    refine ml_st (S' := (85, [(0, .ref a), (1, .int x1)], [.ref a, .ref p], M)) rfl rfl rfl ?_
    refine tg_ref (S' := (88, [(0, .ref a), (1, .int x1)], [.ref p, .ref p], M)) rfl hS.1 hY0 (by decide) rfl rfl ?_
    refine ml_st (S' := (89, [(0, .ref a), (1, .int x1)], [.int x1, .ref p, .ref p], M)) rfl rfl rfl ?_
    refine ml_call (a := [.ref p, .int x1]) (rest := [.ref p]) rfl (okc_t rfl rfl rfl hS.1 hY1 (by decide)) rfl rfl (tq_firstIndex hS.1 hY1 (by omega)) (fun v5 M6 h7 => ?_)
    obtain ⟨⟨u8, rfl⟩, h7⟩ := h7
    rw [h7]
    show ml _ _ _ (92, [(0, .ref a), (1, .int x1)], [.int u8, .ref p], M) _
    refine ml_call (a := [.ref p, .int u8]) (rest := []) rfl (okc_t rfl rfl rfl hS.1 hY1 (by decide)) rfl rfl (tq_tagOf hS.1 hY1 (by omega)) (fun v9 M10 h11 => ?_)
    obtain ⟨⟨u12, rfl⟩, h11⟩ := h11
    rw [h11]
    show ml _ _ _ (95, [(0, .ref a), (1, .int x1)], [.int u12], M) _
    refine ml_st (S' := (96, [(0, .ref a), (1, .int x1)], [.int 1, .int u12], M)) rfl rfl rfl ?_
    refine ml_if2 (S1 := (103, [(0, .ref a), (1, .int x1)], [], M)) (S2 := (99, [(0, .ref a), (1, .int x1)], [], M)) rfl rfl rfl (fun c_96 => ?_) (fun c_96 => ?_)
    · have c_96 : ¬ u12 = 1 := of_decide_eq_true c_96
      refine ml_st (S' := (104, [], [.int 0], M)) rfl rfl rfl ?_
      exact ml_ret rfl (r_z (Or.inl rfl)) (⟨⟨_, rfl, Or.inl rfl⟩, rfl⟩)
    · have c_96 : ¬ (¬ u12 = 1) := of_decide_eq_false c_96
      refine ml_st (S' := (100, [(0, .ref a), (1, .int x1)], [.int 1], M)) rfl rfl rfl ?_
      refine ml_st (S' := (104, [], [.int 1], M)) rfl rfl rfl ?_
      exact ml_ret rfl (r_z (Or.inr rfl)) (⟨⟨_, rfl, Or.inr rfl⟩, rfl⟩)
  · show ml _ _ _ (105, [(0, .ref a), (1, .int x1)], [], M) _
    refine ml_blk 2 (S' := (107, [(0, .ref a), (1, .int x1)], [.int x1, .ref a], M)) rfl ?_
    refine ml_call (a := [.ref a, .int x1]) (rest := []) rfl (okc_t rfl rfl rfl hS.1 hY0 (by decide)) rfl rfl (tw_Po_pairHolds hS.1 hY0 hY1 hY2 (by omega)) (fun v13 M14 h15 => ?_)
    obtain ⟨⟨u16, rfl, z17⟩, h15⟩ := h15
    rw [h15]
    show ml _ _ _ (110, [(0, .ref a), (1, .int x1)], [.int u16], M) _
    exact ml_ret rfl (r_z (z17)) (⟨⟨_, rfl, z17⟩, rfl⟩)
  · show ml _ _ _ (111, [(0, .ref a), (1, .int x1)], [], M) _
    refine ml_blk 2 (S' := (113, [(0, .ref a), (1, .int x1)], [.int x1, .ref a], M)) rfl ?_
    refine ml_call (a := [.ref a, .int x1]) (rest := []) rfl (okc_t rfl rfl rfl hS.1 hY0 (by decide)) rfl rfl (tw_Po_memberHolds hS.1 hY0 hY1 hY2 (by omega)) (fun v18 M19 h20 => ?_)
    obtain ⟨⟨u21, rfl, z22⟩, h20⟩ := h20
    rw [h20]
    show ml _ _ _ (116, [(0, .ref a), (1, .int x1)], [.int u21], M) _
    exact ml_ret rfl (r_z (z22)) (⟨⟨_, rfl, z22⟩, rfl⟩)
  · show ml _ _ _ (117, [(0, .ref a), (1, .int x1)], [], M) _
    refine ml_st (S' := (118, [(0, .ref a), (1, .int x1)], [.ref a], M)) rfl rfl rfl ?_
    refine tg_ref (S' := (121, [(0, .ref a), (1, .int x1)], [.ref p], M)) rfl hS.1 hY0 (by decide) rfl rfl ?_
    refine ml_st (S' := (122, [(0, .ref a), (1, .int x1)], [.int x1, .ref p], M)) rfl rfl rfl ?_
    refine ml_call (a := [.ref p, .int x1]) (rest := []) rfl (okc_t rfl rfl rfl hS.1 hY1 (by decide)) rfl rfl (tq_secondIndex hS.1 hY1 (by omega)) (fun v23 M24 h25 => ?_)
    obtain ⟨⟨u26, rfl⟩, h25⟩ := h25
    rw [h25]
    show ml _ _ _ (125, [(0, .ref a), (1, .int x1)], [.int u26], M) _
    refine ml_st (S' := (126, [(2, .int u26), (0, .ref a), (1, .int x1)], [], M)) rfl rfl rfl ?_
    refine ml_blk 2 (S' := (128, [(2, .int u26), (0, .ref a), (1, .int x1)], [.int u26, .ref a], M)) rfl ?_
    refine ml_call (a := [.ref a, .int u26]) (rest := []) rfl (okc_t rfl rfl rfl hS.1 hY0 (by decide)) rfl rfl (tw_Po_isMember hS.1 hY0 hY1 hY2 (by omega)) (fun v27 M28 h29 => ?_)
    obtain ⟨⟨u30, rfl, z31⟩, h29⟩ := h29
    rw [h29]
    show ml _ _ _ (131, [(2, .int u26), (0, .ref a), (1, .int x1)], [.int u30], M) _
    refine ml_if (S1 := (142, [(2, .int u26), (0, .ref a), (1, .int x1)], [], M)) (S2 := (134, [(2, .int u26), (0, .ref a), (1, .int x1)], [], M)) rfl rfl rfl (fun c_131 => ?_) (fun c_131 => ?_)
    · have c_131 : u30 = 0 := of_decide_eq_true c_131
      refine ml_st (S' := (143, [(2, .int u26), (0, .ref a), (1, .int x1)], [.ref a], M)) rfl rfl rfl ?_
      refine tg_ref (S' := (146, [(2, .int u26), (0, .ref a), (1, .int x1)], [.ref p], M)) rfl hS.1 hY0 (by decide) rfl rfl ?_
      refine ml_st (S' := (147, [(2, .int u26), (0, .ref a), (1, .int x1)], [.int u26, .ref p], M)) rfl rfl rfl ?_
      refine ml_call (a := [.ref p, .int u26]) (rest := []) rfl (okc_t rfl rfl rfl hS.1 hY1 (by decide)) rfl rfl (tq_tagOf hS.1 hY1 (by omega)) (fun v32 M33 h34 => ?_)
      obtain ⟨⟨u35, rfl⟩, h34⟩ := h34
      rw [h34]
      show ml _ _ _ (150, [(2, .int u26), (0, .ref a), (1, .int x1)], [.int u35], M) _
      refine ml_if (S1 := (157, [(2, .int u26), (0, .ref a), (1, .int x1)], [], M)) (S2 := (153, [(2, .int u26), (0, .ref a), (1, .int x1)], [], M)) rfl rfl rfl (fun c_150 => ?_) (fun c_150 => ?_)
      · have c_150 : u35 = 0 := of_decide_eq_true c_150
        refine ml_st (S' := (158, [], [.int 0], M)) rfl rfl rfl ?_
        exact ml_ret rfl (r_z (Or.inl rfl)) (⟨⟨_, rfl, Or.inl rfl⟩, rfl⟩)
      · have c_150 : ¬ (u35 = 0) := of_decide_eq_false c_150
        refine ml_st (S' := (154, [(2, .int u26), (0, .ref a), (1, .int x1)], [.int 1], M)) rfl rfl rfl ?_
        refine ml_st (S' := (158, [], [.int 1], M)) rfl rfl rfl ?_
        exact ml_ret rfl (r_z (Or.inr rfl)) (⟨⟨_, rfl, Or.inr rfl⟩, rfl⟩)
    · have c_131 : ¬ (u30 = 0) := of_decide_eq_false c_131
      refine ml_blk 2 (S' := (136, [(2, .int u26), (0, .ref a), (1, .int x1)], [.int u26, .ref a], M)) rfl ?_
      refine ml_call (a := [.ref a, .int u26]) (rest := []) rfl (okc_t rfl rfl rfl hS.1 hY0 (by decide)) rfl rfl (tw_Po_memberHolds hS.1 hY0 hY1 hY2 (by omega)) (fun v36 M37 h38 => ?_)
      obtain ⟨⟨u39, rfl, z40⟩, h38⟩ := h38
      rw [h38]
      show ml _ _ _ (139, [(2, .int u26), (0, .ref a), (1, .int x1)], [.int u39], M) _
      refine ml_st (S' := (158, [], [.int u39], M)) rfl rfl rfl ?_
      exact ml_ret rfl (r_z (z40)) (⟨⟨_, rfl, z40⟩, rfl⟩)
  · show ml _ _ _ (159, [(0, .ref a), (1, .int x1)], [], M) _
    refine ml_blk 2 (S' := (161, [(0, .ref a), (1, .int x1)], [.ref a, .ref a], M)) rfl ?_
    refine tg_ref (S' := (164, [(0, .ref a), (1, .int x1)], [.ref p, .ref a], M)) rfl hS.1 hY0 (by decide) rfl rfl ?_
    refine ml_st (S' := (165, [(0, .ref a), (1, .int x1)], [.int x1, .ref p, .ref a], M)) rfl rfl rfl ?_
    refine ml_call (a := [.ref p, .int x1]) (rest := [.ref a]) rfl (okc_t rfl rfl rfl hS.1 hY1 (by decide)) rfl rfl (tq_secondIndex hS.1 hY1 (by omega)) (fun v41 M42 h43 => ?_)
    obtain ⟨⟨u44, rfl⟩, h43⟩ := h43
    rw [h43]
    show ml _ _ _ (168, [(0, .ref a), (1, .int x1)], [.int u44, .ref a], M) _
    refine ml_call (a := [.ref a, .int u44]) (rest := []) rfl (okc_t rfl rfl rfl hS.1 hY0 (by decide)) rfl rfl (tw_Po_pairHolds hS.1 hY0 hY1 hY2 (by omega)) (fun v45 M46 h47 => ?_)
    obtain ⟨⟨u48, rfl, z49⟩, h47⟩ := h47
    rw [h47]
    show ml _ _ _ (171, [(0, .ref a), (1, .int x1)], [.int u48], M) _
    exact ml_ret rfl (r_z (z49)) (⟨⟨_, rfl, z49⟩, rfl⟩)
  · show ml _ _ _ (172, [(0, .ref a), (1, .int x1)], [], M) _
    refine ml_st (S' := (173, [(0, .ref a), (1, .int x1)], [.int 1], M)) rfl rfl rfl ?_
    exact ml_ret rfl (r_z (Or.inr rfl)) (⟨⟨_, rfl, Or.inr rfl⟩, rfl⟩)
set_option maxHeartbeats 2000000 in
theorem tw_Po_isNameWithType {g : xe_G} {M : mi_H} {Y : yT} {a p vd : Nat} {pp : List Nat} {x1 : Int32}  (hW : WF g Y M) (hY0 : Y.1 a = some (8, [p, vd])) (hY1 : Y.1 p = some (7, pp)) (hY2 : Y.1 vd = some (10, [])) {d : Nat} (hd : 4 ≤ d) : mt (mT g) d 150 [.ref a, .int x1] M (pZ M) := by
  obtain ⟨d, rfl⟩ : ∃ e, d = e + 1 := ⟨d - 1, by omega⟩
  have hS : st g Y M M := st.rf hW
  refine mt_in (b := mb_150 g) rfl rfl ?_
  show ml (mT g) d (mb_150 g).2 (0, [(0, .ref a), (1, .int x1)], [], M) _
  refine ml_st (S' := (1, [(0, .ref a), (1, .int x1)], [.ref a], M)) rfl rfl rfl ?_
  refine tg_ref (S' := (4, [(0, .ref a), (1, .int x1)], [.ref p], M)) rfl hS.1 hY0 (by decide) rfl rfl ?_
  refine ml_st (S' := (5, [(0, .ref a), (1, .int x1)], [.int x1, .ref p], M)) rfl rfl rfl ?_
  refine ml_call (a := [.ref p, .int x1]) (rest := []) rfl (okc_t rfl rfl rfl hS.1 hY1 (by decide)) rfl rfl (tq_secondIndex hS.1 hY1 (by omega)) (fun v1 M2 h3 => ?_)
  obtain ⟨⟨u4, rfl⟩, h3⟩ := h3
  rw [h3]
  show ml _ _ _ (8, [(0, .ref a), (1, .int x1)], [.int u4], M) _
  refine ml_st (S' := (9, [(2, .int u4), (0, .ref a), (1, .int x1)], [], M)) rfl rfl rfl ?_
  refine ml_st (S' := (10, [(2, .int u4), (0, .ref a), (1, .int x1)], [.ref a], M)) rfl rfl rfl ?_
  refine tg_ref (S' := (13, [(2, .int u4), (0, .ref a), (1, .int x1)], [.ref p], M)) rfl hS.1 hY0 (by decide) rfl rfl ?_
  refine ml_st (S' := (14, [(2, .int u4), (0, .ref a), (1, .int x1)], [.ref a, .ref p], M)) rfl rfl rfl ?_
  refine tg_ref (S' := (17, [(2, .int u4), (0, .ref a), (1, .int x1)], [.ref p, .ref p], M)) rfl hS.1 hY0 (by decide) rfl rfl ?_
  refine ml_st (S' := (18, [(2, .int u4), (0, .ref a), (1, .int x1)], [.int x1, .ref p, .ref p], M)) rfl rfl rfl ?_
  refine ml_call (a := [.ref p, .int x1]) (rest := [.ref p]) rfl (okc_t rfl rfl rfl hS.1 hY1 (by decide)) rfl rfl (tq_firstIndex hS.1 hY1 (by omega)) (fun v5 M6 h7 => ?_)
  obtain ⟨⟨u8, rfl⟩, h7⟩ := h7
  rw [h7]
  show ml _ _ _ (21, [(2, .int u4), (0, .ref a), (1, .int x1)], [.int u8, .ref p], M) _
  refine ml_call (a := [.ref p, .int u8]) (rest := []) rfl (okc_t rfl rfl rfl hS.1 hY1 (by decide)) rfl rfl (tq_isUnqualifiedName hS.1 hY1 (by omega)) (fun v9 M10 h11 => ?_)
  obtain ⟨⟨u12, rfl, z13⟩, h11⟩ := h11
  rw [h11]
  show ml _ _ _ (24, [(2, .int u4), (0, .ref a), (1, .int x1)], [.int u12], M) _
  refine ml_if (S1 := (53, [], [], M)) (S2 := (27, [(2, .int u4), (0, .ref a), (1, .int x1)], [], M)) rfl rfl rfl (fun c_24 => ?_) (fun c_24 => ?_)
  · have c_24 : u12 = 0 := of_decide_eq_true c_24
    refine ml_st (S' := (54, [], [.int 0], M)) rfl rfl rfl ?_
    exact ml_ret rfl (r_z (Or.inl rfl)) (⟨⟨_, rfl, Or.inl rfl⟩, rfl⟩)
  · have c_24 : ¬ (u12 = 0) := of_decide_eq_false c_24
    refine ml_st (S' := (28, [(2, .int u4), (0, .ref a), (1, .int x1)], [.ref a], M)) rfl rfl rfl ?_
    refine tg_ref (S' := (31, [(2, .int u4), (0, .ref a), (1, .int x1)], [.ref p], M)) rfl hS.1 hY0 (by decide) rfl rfl ?_
    refine ml_st (S' := (32, [(2, .int u4), (0, .ref a), (1, .int x1)], [.int u4, .ref p], M)) rfl rfl rfl ?_
    refine ml_call (a := [.ref p, .int u4]) (rest := []) rfl (okc_t rfl rfl rfl hS.1 hY1 (by decide)) rfl rfl (tq_isFieldDescriptor hS.1 hY1 (by omega)) (fun v14 M15 h16 => ?_)
    obtain ⟨⟨u17, rfl, z18⟩, h16⟩ := h16
    rw [h16]
    show ml _ _ _ (35, [(2, .int u4), (0, .ref a), (1, .int x1)], [.int u17], M) _
    refine ml_if (S1 := (49, [], [], M)) (S2 := (38, [(2, .int u4), (0, .ref a), (1, .int x1)], [], M)) rfl rfl rfl (fun c_35 => ?_) (fun c_35 => ?_)
    · have c_35 : ¬ u17 = 0 := of_decide_eq_true c_35
      refine ml_st (S' := (50, [], [.int 1], M)) rfl rfl rfl ?_
      refine ml_st (S' := (54, [], [.int 1], M)) rfl rfl rfl ?_
      exact ml_ret rfl (r_z (Or.inr rfl)) (⟨⟨_, rfl, Or.inr rfl⟩, rfl⟩)
    · have c_35 : ¬ (¬ u17 = 0) := of_decide_eq_false c_35
      refine ml_st (S' := (39, [(2, .int u4), (0, .ref a), (1, .int x1)], [.ref a], M)) rfl rfl rfl ?_
      refine tg_ref (S' := (42, [(2, .int u4), (0, .ref a), (1, .int x1)], [.ref p], M)) rfl hS.1 hY0 (by decide) rfl rfl ?_
      refine ml_st (S' := (43, [(2, .int u4), (0, .ref a), (1, .int x1)], [.int u4, .ref p], M)) rfl rfl rfl ?_
      refine ml_call (a := [.ref p, .int u4]) (rest := []) rfl (okc_t rfl rfl rfl hS.1 hY1 (by decide)) rfl rfl (tq_isMethodDescriptor hS.1 hY1 (by omega)) (fun v19 M20 h21 => ?_)
      obtain ⟨⟨u22, rfl, z23⟩, h21⟩ := h21
      rw [h21]
      show ml _ _ _ (46, [(2, .int u4), (0, .ref a), (1, .int x1)], [.int u22], M) _
      refine ml_if (S1 := (53, [], [], M)) (S2 := (49, [], [], M)) rfl rfl rfl (fun c_46 => ?_) (fun c_46 => ?_)
      · have c_46 : u22 = 0 := of_decide_eq_true c_46
        refine ml_st (S' := (54, [], [.int 0], M)) rfl rfl rfl ?_
        exact ml_ret rfl (r_z (Or.inl rfl)) (⟨⟨_, rfl, Or.inl rfl⟩, rfl⟩)
      · have c_46 : ¬ (u22 = 0) := of_decide_eq_false c_46
        refine ml_st (S' := (50, [], [.int 1], M)) rfl rfl rfl ?_
        refine ml_st (S' := (54, [], [.int 1], M)) rfl rfl rfl ?_
        exact ml_ret rfl (r_z (Or.inr rfl)) (⟨⟨_, rfl, Or.inr rfl⟩, rfl⟩)
set_option maxHeartbeats 2000000 in
theorem tw_Po_isMethodRef {g : xe_G} {M : mi_H} {Y : yT} {a p vd : Nat} {pp : List Nat} {x1 : Int32}  (hW : WF g Y M) (hY0 : Y.1 a = some (8, [p, vd])) (hY1 : Y.1 p = some (7, pp)) (hY2 : Y.1 vd = some (10, [])) {d : Nat} (hd : 4 ≤ d) : mt (mT g) d 149 [.ref a, .int x1] M (pZ M) := by
  obtain ⟨d, rfl⟩ : ∃ e, d = e + 1 := ⟨d - 1, by omega⟩
  have hS : st g Y M M := st.rf hW
  refine mt_in (b := mb_149 g) rfl rfl ?_
  show ml (mT g) d (mb_149 g).2 (0, [(0, .ref a), (1, .int x1)], [], M) _
  refine ml_st (S' := (1, [(0, .ref a), (1, .int x1)], [.ref a], M)) rfl rfl rfl ?_
  refine tg_ref (S' := (4, [(0, .ref a), (1, .int x1)], [.ref p], M)) rfl hS.1 hY0 (by decide) rfl rfl ?_
  refine ml_st (S' := (5, [(0, .ref a), (1, .int x1)], [.int x1, .ref p], M)) rfl rfl rfl ?_
  refine ml_call (a := [.ref p, .int x1]) (rest := []) rfl (okc_t rfl rfl rfl hS.1 hY1 (by decide)) rfl rfl (tq_descriptorOf hS.1 hY1 (by omega)) (fun v1 M2 h3 => ?_)
  obtain ⟨⟨u4, rfl⟩, h3⟩ := h3
  rw [h3]
  show ml _ _ _ (8, [(0, .ref a), (1, .int x1)], [.int u4], M) _
  refine ml_st (S' := (9, [(2, .int u4), (0, .ref a), (1, .int x1)], [], M)) rfl rfl rfl ?_
  refine ml_st (S' := (10, [(2, .int u4), (0, .ref a), (1, .int x1)], [.ref a], M)) rfl rfl rfl ?_
  refine tg_ref (S' := (13, [(2, .int u4), (0, .ref a), (1, .int x1)], [.ref p], M)) rfl hS.1 hY0 (by decide) rfl rfl ?_
  refine ml_st (S' := (14, [(2, .int u4), (0, .ref a), (1, .int x1)], [.int u4, .ref p], M)) rfl rfl rfl ?_
  refine ml_call (a := [.ref p, .int u4]) (rest := []) rfl (okc_t rfl rfl rfl hS.1 hY1 (by decide)) rfl rfl (tq_isMethodDescriptor hS.1 hY1 (by omega)) (fun v5 M6 h7 => ?_)
  obtain ⟨⟨u8, rfl, z9⟩, h7⟩ := h7
  rw [h7]
  show ml _ _ _ (17, [(2, .int u4), (0, .ref a), (1, .int x1)], [.int u8], M) _
  refine ml_if (S1 := (22, [(2, .int u4), (0, .ref a), (1, .int x1)], [], M)) (S2 := (20, [(2, .int u4), (0, .ref a), (1, .int x1)], [], M)) rfl rfl rfl (fun c_17 => ?_) (fun c_17 => ?_)
  · have c_17 : ¬ u8 = 0 := of_decide_eq_true c_17
    refine ml_st (S' := (23, [(2, .int u4), (0, .ref a), (1, .int x1)], [.ref a], M)) rfl rfl rfl ?_
    refine tg_ref (S' := (26, [(2, .int u4), (0, .ref a), (1, .int x1)], [.ref p], M)) rfl hS.1 hY0 (by decide) rfl rfl ?_
    refine ml_st (S' := (27, [(2, .int u4), (0, .ref a), (1, .int x1)], [.ref a, .ref p], M)) rfl rfl rfl ?_
    refine tg_ref (S' := (30, [(2, .int u4), (0, .ref a), (1, .int x1)], [.ref p, .ref p], M)) rfl hS.1 hY0 (by decide) rfl rfl ?_
    refine ml_st (S' := (31, [(2, .int u4), (0, .ref a), (1, .int x1)], [.int x1, .ref p, .ref p], M)) rfl rfl rfl ?_
    refine ml_call (a := [.ref p, .int x1]) (rest := [.ref p]) rfl (okc_t rfl rfl rfl hS.1 hY1 (by decide)) rfl rfl (tq_nameOf hS.1 hY1 (by omega)) (fun v10 M11 h12 => ?_)
    obtain ⟨⟨u13, rfl⟩, h12⟩ := h12
    rw [h12]
    show ml _ _ _ (34, [(2, .int u4), (0, .ref a), (1, .int x1)], [.int u13, .ref p], M) _
    refine ml_call (a := [.ref p, .int u13]) (rest := []) rfl (okc_t rfl rfl rfl hS.1 hY1 (by decide)) rfl rfl (tq_hasAngle hS.1 hY1 (by omega)) (fun v14 M15 h16 => ?_)
    obtain ⟨⟨u17, rfl, z18⟩, h16⟩ := h16
    rw [h16]
    show ml _ _ _ (37, [(2, .int u4), (0, .ref a), (1, .int x1)], [.int u17], M) _
    refine ml_if (S1 := (42, [(2, .int u4), (0, .ref a), (1, .int x1)], [], M)) (S2 := (40, [(2, .int u4), (0, .ref a), (1, .int x1)], [], M)) rfl rfl rfl (fun c_37 => ?_) (fun c_37 => ?_)
    · have c_37 : ¬ u17 = 0 := of_decide_eq_true c_37
      refine ml_st (S' := (43, [(2, .int u4), (0, .ref a), (1, .int x1)], [.ref a], M)) rfl rfl rfl ?_
      refine tg_ref (S' := (46, [(2, .int u4), (0, .ref a), (1, .int x1)], [.ref p], M)) rfl hS.1 hY0 (by decide) rfl rfl ?_
      refine ml_st (S' := (47, [(2, .int u4), (0, .ref a), (1, .int x1)], [.int x1, .ref p], M)) rfl rfl rfl ?_
      refine ml_call (a := [.ref p, .int x1]) (rest := []) rfl (okc_t rfl rfl rfl hS.1 hY1 (by decide)) rfl rfl (tq_tagOf hS.1 hY1 (by omega)) (fun v19 M20 h21 => ?_)
      obtain ⟨⟨u22, rfl⟩, h21⟩ := h21
      rw [h21]
      show ml _ _ _ (50, [(2, .int u4), (0, .ref a), (1, .int x1)], [.int u22], M) _
      refine ml_st (S' := (52, [(2, .int u4), (0, .ref a), (1, .int x1)], [.int 10, .int u22], M)) rfl rfl rfl ?_
      refine ml_if2 (S1 := (81, [], [], M)) (S2 := (55, [(2, .int u4), (0, .ref a), (1, .int x1)], [], M)) rfl rfl rfl (fun c_52 => ?_) (fun c_52 => ?_)
      · have c_52 : ¬ u22 = 10 := of_decide_eq_true c_52
        refine ml_st (S' := (82, [], [.int 0], M)) rfl rfl rfl ?_
        exact ml_ret rfl (r_z (Or.inl rfl)) (⟨⟨_, rfl, Or.inl rfl⟩, rfl⟩)
      · have c_52 : ¬ (¬ u22 = 10) := of_decide_eq_false c_52
        refine ml_st (S' := (56, [(2, .int u4), (0, .ref a), (1, .int x1)], [.ref a], M)) rfl rfl rfl ?_
        refine tg_ref (S' := (59, [(2, .int u4), (0, .ref a), (1, .int x1)], [.ref p], M)) rfl hS.1 hY0 (by decide) rfl rfl ?_
        refine ml_st (S' := (60, [(2, .int u4), (0, .ref a), (1, .int x1)], [.int x1, .ref p], M)) rfl rfl rfl ?_
        refine ml_call (a := [.ref p, .int x1]) (rest := []) rfl (okc_t rfl rfl rfl hS.1 hY1 (by decide)) rfl rfl (tw_Po_namesInit hS.1 hY1 (by omega)) (fun v23 M24 h25 => ?_)
        obtain ⟨⟨u26, rfl, z27⟩, h25⟩ := h25
        rw [h25]
        show ml _ _ _ (63, [(2, .int u4), (0, .ref a), (1, .int x1)], [.int u26], M) _
        refine ml_if (S1 := (81, [], [], M)) (S2 := (66, [(2, .int u4), (0, .ref a), (1, .int x1)], [], M)) rfl rfl rfl (fun c_63 => ?_) (fun c_63 => ?_)
        · have c_63 : u26 = 0 := of_decide_eq_true c_63
          refine ml_st (S' := (82, [], [.int 0], M)) rfl rfl rfl ?_
          exact ml_ret rfl (r_z (Or.inl rfl)) (⟨⟨_, rfl, Or.inl rfl⟩, rfl⟩)
        · have c_63 : ¬ (u26 = 0) := of_decide_eq_false c_63
          refine ml_st (S' := (67, [(2, .int u4), (0, .ref a), (1, .int x1)], [.ref a], M)) rfl rfl rfl ?_
          refine tg_ref (S' := (70, [(2, .int u4), (0, .ref a), (1, .int x1)], [.ref p], M)) rfl hS.1 hY0 (by decide) rfl rfl ?_
          refine ml_st (S' := (71, [(2, .int u4), (0, .ref a), (1, .int x1)], [.int u4, .ref p], M)) rfl rfl rfl ?_
          refine ml_call (a := [.ref p, .int u4]) (rest := []) rfl (okc_t rfl rfl rfl hS.1 hY1 (by decide)) rfl rfl (tq_hasNoResult hS.1 hY1 (by omega)) (fun v28 M29 h30 => ?_)
          obtain ⟨⟨u31, rfl, z32⟩, h30⟩ := h30
          rw [h30]
          show ml _ _ _ (74, [(2, .int u4), (0, .ref a), (1, .int x1)], [.int u31], M) _
          refine ml_if (S1 := (81, [], [], M)) (S2 := (77, [(2, .int u4), (0, .ref a), (1, .int x1)], [], M)) rfl rfl rfl (fun c_74 => ?_) (fun c_74 => ?_)
          · have c_74 : u31 = 0 := of_decide_eq_true c_74
            refine ml_st (S' := (82, [], [.int 0], M)) rfl rfl rfl ?_
            exact ml_ret rfl (r_z (Or.inl rfl)) (⟨⟨_, rfl, Or.inl rfl⟩, rfl⟩)
          · have c_74 : ¬ (u31 = 0) := of_decide_eq_false c_74
            refine ml_st (S' := (78, [(2, .int u4), (0, .ref a), (1, .int x1)], [.int 1], M)) rfl rfl rfl ?_
            refine ml_st (S' := (82, [], [.int 1], M)) rfl rfl rfl ?_
            exact ml_ret rfl (r_z (Or.inr rfl)) (⟨⟨_, rfl, Or.inr rfl⟩, rfl⟩)
    · have c_37 : ¬ (¬ u17 = 0) := of_decide_eq_false c_37
      refine ml_st (S' := (41, [(2, .int u4), (0, .ref a), (1, .int x1)], [.int 1], M)) rfl rfl rfl ?_
      exact ml_ret rfl (r_z (Or.inr rfl)) (⟨⟨_, rfl, Or.inr rfl⟩, rfl⟩)
  · have c_17 : ¬ (¬ u8 = 0) := of_decide_eq_false c_17
    refine ml_st (S' := (21, [(2, .int u4), (0, .ref a), (1, .int x1)], [.int 0], M)) rfl rfl rfl ?_
    exact ml_ret rfl (r_z (Or.inl rfl)) (⟨⟨_, rfl, Or.inl rfl⟩, rfl⟩)
set_option maxHeartbeats 2000000 in
theorem tw_Po_isHandle {g : xe_G} {M : mi_H} {Y : yT} {a p vd : Nat} {pp : List Nat} {x1 x2 : Int32}  (hW : WF g Y M) (hY0 : Y.1 a = some (8, [p, vd])) (hY1 : Y.1 p = some (7, pp)) (hY2 : Y.1 vd = some (10, [])) {d : Nat} (hd : 4 ≤ d) : mt (mT g) d 147 [.ref a, .int x1, .int x2] M (pZ M) := by
  obtain ⟨d, rfl⟩ : ∃ e, d = e + 1 := ⟨d - 1, by omega⟩
  have hS : st g Y M M := st.rf hW
  refine mt_in (b := mb_147 g) rfl rfl ?_
  show ml (mT g) d (mb_147 g).2 (0, [(0, .ref a), (1, .int x1), (2, .int x2)], [], M) _
  refine ml_st (S' := (1, [(0, .ref a), (1, .int x1), (2, .int x2)], [.ref a], M)) rfl rfl rfl ?_
  refine tg_ref (S' := (4, [(0, .ref a), (1, .int x1), (2, .int x2)], [.ref p], M)) rfl hS.1 hY0 (by decide) rfl rfl ?_
  refine ml_st (S' := (5, [(0, .ref a), (1, .int x1), (2, .int x2)], [.int x2, .ref p], M)) rfl rfl rfl ?_
  refine ml_call (a := [.ref p, .int x2]) (rest := []) rfl (okc_t rfl rfl rfl hS.1 hY1 (by decide)) rfl rfl (tq_tagOf hS.1 hY1 (by omega)) (fun v1 M2 h3 => ?_)
  obtain ⟨⟨u4, rfl⟩, h3⟩ := h3
  rw [h3]
  show ml _ _ _ (8, [(0, .ref a), (1, .int x1), (2, .int x2)], [.int u4], M) _
  refine ml_st (S' := (9, [(3, .int u4), (0, .ref a), (1, .int x1), (2, .int x2)], [], M)) rfl rfl rfl ?_
  refine ml_st (S' := (10, [(3, .int u4), (0, .ref a), (1, .int x1), (2, .int x2)], [.int x1], M)) rfl rfl rfl ?_
  refine ml_sw rfl (fun t_10 ht_10 => ?_)
  have kt_10 := ht_10
  have ht_10 : t_10 ∈ [60, 72, 95, 133, 156, 179] := mi_sw_sub ht_10 (by decide)
  simp only [List.mem_cons, List.not_mem_nil, or_false] at ht_10
  rcases ht_10 with rfl | rfl | rfl | rfl | rfl | rfl
  · show ml _ _ _ (60, [(3, .int u4), (0, .ref a), (1, .int x1), (2, .int x2)], [], M) _
    refine ml_blk 2 (S' := (63, [(3, .int u4), (0, .ref a), (1, .int x1), (2, .int x2)], [.int 9, .int u4], M)) rfl ?_
    refine ml_if2 (S1 := (70, [(3, .int u4), (0, .ref a), (1, .int x1), (2, .int x2)], [], M)) (S2 := (66, [(3, .int u4), (0, .ref a), (1, .int x1), (2, .int x2)], [], M)) rfl rfl rfl (fun c_63 => ?_) (fun c_63 => ?_)
    · have c_63 : ¬ u4 = 9 := of_decide_eq_true c_63
      refine ml_st (S' := (71, [], [.int 0], M)) rfl rfl rfl ?_
      exact ml_ret rfl (r_z (Or.inl rfl)) (⟨⟨_, rfl, Or.inl rfl⟩, rfl⟩)
    · have c_63 : ¬ (¬ u4 = 9) := of_decide_eq_false c_63
      refine ml_st (S' := (67, [(3, .int u4), (0, .ref a), (1, .int x1), (2, .int x2)], [.int 1], M)) rfl rfl rfl ?_
      refine ml_st (S' := (71, [], [.int 1], M)) rfl rfl rfl ?_
      exact ml_ret rfl (r_z (Or.inr rfl)) (⟨⟨_, rfl, Or.inr rfl⟩, rfl⟩)
  · show ml _ _ _ (72, [(3, .int u4), (0, .ref a), (1, .int x1), (2, .int x2)], [], M) _
    refine ml_blk 2 (S' := (75, [(3, .int u4), (0, .ref a), (1, .int x1), (2, .int x2)], [.int 10, .int u4], M)) rfl ?_
    refine ml_if2 (S1 := (93, [], [], M)) (S2 := (78, [(3, .int u4), (0, .ref a), (1, .int x1), (2, .int x2)], [], M)) rfl rfl rfl (fun c_75 => ?_) (fun c_75 => ?_)
    · have c_75 : ¬ u4 = 10 := of_decide_eq_true c_75
      refine ml_st (S' := (94, [], [.int 0], M)) rfl rfl rfl ?_
      exact ml_ret rfl (r_z (Or.inl rfl)) (⟨⟨_, rfl, Or.inl rfl⟩, rfl⟩)
    · have c_75 : ¬ (¬ u4 = 10) := of_decide_eq_false c_75
      refine ml_st (S' := (79, [(3, .int u4), (0, .ref a), (1, .int x1), (2, .int x2)], [.ref a], M)) rfl rfl rfl ?_
      refine tg_ref (S' := (82, [(3, .int u4), (0, .ref a), (1, .int x1), (2, .int x2)], [.ref p], M)) rfl hS.1 hY0 (by decide) rfl rfl ?_
      refine ml_st (S' := (83, [(3, .int u4), (0, .ref a), (1, .int x1), (2, .int x2)], [.int x2, .ref p], M)) rfl rfl rfl ?_
      refine ml_call (a := [.ref p, .int x2]) (rest := []) rfl (okc_t rfl rfl rfl hS.1 hY1 (by decide)) rfl rfl (tw_Po_namesInit hS.1 hY1 (by omega)) (fun v5 M6 h7 => ?_)
      obtain ⟨⟨u8, rfl, z9⟩, h7⟩ := h7
      rw [h7]
      show ml _ _ _ (86, [(3, .int u4), (0, .ref a), (1, .int x1), (2, .int x2)], [.int u8], M) _
      refine ml_if (S1 := (93, [], [], M)) (S2 := (89, [(3, .int u4), (0, .ref a), (1, .int x1), (2, .int x2)], [], M)) rfl rfl rfl (fun c_86 => ?_) (fun c_86 => ?_)
      · have c_86 : ¬ u8 = 0 := of_decide_eq_true c_86
        refine ml_st (S' := (94, [], [.int 0], M)) rfl rfl rfl ?_
        exact ml_ret rfl (r_z (Or.inl rfl)) (⟨⟨_, rfl, Or.inl rfl⟩, rfl⟩)
      · have c_86 : ¬ (¬ u8 = 0) := of_decide_eq_false c_86
        refine ml_st (S' := (90, [(3, .int u4), (0, .ref a), (1, .int x1), (2, .int x2)], [.int 1], M)) rfl rfl rfl ?_
        refine ml_st (S' := (94, [], [.int 1], M)) rfl rfl rfl ?_
        exact ml_ret rfl (r_z (Or.inr rfl)) (⟨⟨_, rfl, Or.inr rfl⟩, rfl⟩)
  · show ml _ _ _ (95, [(3, .int u4), (0, .ref a), (1, .int x1), (2, .int x2)], [], M) _
    refine ml_blk 2 (S' := (98, [(3, .int u4), (0, .ref a), (1, .int x1), (2, .int x2)], [.int 10, .int u4], M)) rfl ?_
    refine ml_if2 (S1 := (116, [(0, .ref a), (2, .int x2)], [], M)) (S2 := (101, [(3, .int u4), (0, .ref a), (1, .int x1), (2, .int x2)], [], M)) rfl rfl rfl (fun c_98 => ?_) (fun c_98 => ?_)
    · have c_98 : u4 = 10 := of_decide_eq_true c_98
      refine ml_st (S' := (117, [(0, .ref a), (2, .int x2)], [.ref a], M)) rfl rfl rfl ?_
      refine tg_ref (S' := (120, [(0, .ref a), (2, .int x2)], [.ref p], M)) rfl hS.1 hY0 (by decide) rfl rfl ?_
      refine ml_st (S' := (121, [(0, .ref a), (2, .int x2)], [.int x2, .ref p], M)) rfl rfl rfl ?_
      refine ml_call (a := [.ref p, .int x2]) (rest := []) rfl (okc_t rfl rfl rfl hS.1 hY1 (by decide)) rfl rfl (tw_Po_namesInit hS.1 hY1 (by omega)) (fun v10 M11 h12 => ?_)
      obtain ⟨⟨u13, rfl, z14⟩, h12⟩ := h12
      rw [h12]
      show ml _ _ _ (124, [(0, .ref a), (2, .int x2)], [.int u13], M) _
      refine ml_if (S1 := (131, [], [], M)) (S2 := (127, [(0, .ref a), (2, .int x2)], [], M)) rfl rfl rfl (fun c_124 => ?_) (fun c_124 => ?_)
      · have c_124 : ¬ u13 = 0 := of_decide_eq_true c_124
        refine ml_st (S' := (132, [], [.int 0], M)) rfl rfl rfl ?_
        exact ml_ret rfl (r_z (Or.inl rfl)) (⟨⟨_, rfl, Or.inl rfl⟩, rfl⟩)
      · have c_124 : ¬ (¬ u13 = 0) := of_decide_eq_false c_124
        refine ml_st (S' := (128, [(0, .ref a), (2, .int x2)], [.int 1], M)) rfl rfl rfl ?_
        refine ml_st (S' := (132, [], [.int 1], M)) rfl rfl rfl ?_
        exact ml_ret rfl (r_z (Or.inr rfl)) (⟨⟨_, rfl, Or.inr rfl⟩, rfl⟩)
    · have c_98 : ¬ (u4 = 10) := of_decide_eq_false c_98
      refine ml_blk 2 (S' := (104, [(3, .int u4), (0, .ref a), (1, .int x1), (2, .int x2)], [.int 11, .int u4], M)) rfl ?_
      refine ml_if2 (S1 := (131, [], [], M)) (S2 := (107, [(3, .int u4), (0, .ref a), (1, .int x1), (2, .int x2)], [], M)) rfl rfl rfl (fun c_104 => ?_) (fun c_104 => ?_)
      · have c_104 : ¬ u4 = 11 := of_decide_eq_true c_104
        refine ml_st (S' := (132, [], [.int 0], M)) rfl rfl rfl ?_
        exact ml_ret rfl (r_z (Or.inl rfl)) (⟨⟨_, rfl, Or.inl rfl⟩, rfl⟩)
      · have c_104 : ¬ (¬ u4 = 11) := of_decide_eq_false c_104
        refine ml_st (S' := (108, [(3, .int u4), (0, .ref a), (1, .int x1), (2, .int x2)], [.ref a], M)) rfl rfl rfl ?_
        refine tg_int rfl hS.1 hY0 (by decide) rfl (fun u15 g16 => ?_)
        show ml _ _ _ (111, [(3, .int u4), (0, .ref a), (1, .int x1), (2, .int x2)], [.int u15], M) _
        refine ml_st (S' := (113, [(3, .int u4), (0, .ref a), (1, .int x1), (2, .int x2)], [.int 52, .int u15], M)) rfl rfl rfl ?_
        refine ml_if2 (S1 := (131, [], [], M)) (S2 := (116, [(0, .ref a), (2, .int x2)], [], M)) rfl rfl rfl (fun c_113 => ?_) (fun c_113 => ?_)
        · have c_113 : u15 < 52 := of_decide_eq_true c_113
          refine ml_st (S' := (132, [], [.int 0], M)) rfl rfl rfl ?_
          exact ml_ret rfl (r_z (Or.inl rfl)) (⟨⟨_, rfl, Or.inl rfl⟩, rfl⟩)
        · have c_113 : ¬ (u15 < 52) := of_decide_eq_false c_113
          refine ml_st (S' := (117, [(0, .ref a), (2, .int x2)], [.ref a], M)) rfl rfl rfl ?_
          refine tg_ref (S' := (120, [(0, .ref a), (2, .int x2)], [.ref p], M)) rfl hS.1 hY0 (by decide) rfl rfl ?_
          refine ml_st (S' := (121, [(0, .ref a), (2, .int x2)], [.int x2, .ref p], M)) rfl rfl rfl ?_
          refine ml_call (a := [.ref p, .int x2]) (rest := []) rfl (okc_t rfl rfl rfl hS.1 hY1 (by decide)) rfl rfl (tw_Po_namesInit hS.1 hY1 (by omega)) (fun v17 M18 h19 => ?_)
          obtain ⟨⟨u20, rfl, z21⟩, h19⟩ := h19
          rw [h19]
          show ml _ _ _ (124, [(0, .ref a), (2, .int x2)], [.int u20], M) _
          refine ml_if (S1 := (131, [], [], M)) (S2 := (127, [(0, .ref a), (2, .int x2)], [], M)) rfl rfl rfl (fun c_124 => ?_) (fun c_124 => ?_)
          · have c_124 : ¬ u20 = 0 := of_decide_eq_true c_124
            refine ml_st (S' := (132, [], [.int 0], M)) rfl rfl rfl ?_
            exact ml_ret rfl (r_z (Or.inl rfl)) (⟨⟨_, rfl, Or.inl rfl⟩, rfl⟩)
          · have c_124 : ¬ (¬ u20 = 0) := of_decide_eq_false c_124
            refine ml_st (S' := (128, [(0, .ref a), (2, .int x2)], [.int 1], M)) rfl rfl rfl ?_
            refine ml_st (S' := (132, [], [.int 1], M)) rfl rfl rfl ?_
            exact ml_ret rfl (r_z (Or.inr rfl)) (⟨⟨_, rfl, Or.inr rfl⟩, rfl⟩)
  · show ml _ _ _ (133, [(3, .int u4), (0, .ref a), (1, .int x1), (2, .int x2)], [], M) _
    refine ml_blk 2 (S' := (136, [(3, .int u4), (0, .ref a), (1, .int x1), (2, .int x2)], [.int 10, .int u4], M)) rfl ?_
    refine ml_if2 (S1 := (154, [], [], M)) (S2 := (139, [(3, .int u4), (0, .ref a), (1, .int x1), (2, .int x2)], [], M)) rfl rfl rfl (fun c_136 => ?_) (fun c_136 => ?_)
    · have c_136 : ¬ u4 = 10 := of_decide_eq_true c_136
      refine ml_st (S' := (155, [], [.int 0], M)) rfl rfl rfl ?_
      exact ml_ret rfl (r_z (Or.inl rfl)) (⟨⟨_, rfl, Or.inl rfl⟩, rfl⟩)
    · have c_136 : ¬ (¬ u4 = 10) := of_decide_eq_false c_136
      refine ml_st (S' := (140, [(3, .int u4), (0, .ref a), (1, .int x1), (2, .int x2)], [.ref a], M)) rfl rfl rfl ?_
      refine tg_ref (S' := (143, [(3, .int u4), (0, .ref a), (1, .int x1), (2, .int x2)], [.ref p], M)) rfl hS.1 hY0 (by decide) rfl rfl ?_
      refine ml_st (S' := (144, [(3, .int u4), (0, .ref a), (1, .int x1), (2, .int x2)], [.int x2, .ref p], M)) rfl rfl rfl ?_
      refine ml_call (a := [.ref p, .int x2]) (rest := []) rfl (okc_t rfl rfl rfl hS.1 hY1 (by decide)) rfl rfl (tw_Po_namesInit hS.1 hY1 (by omega)) (fun v22 M23 h24 => ?_)
      obtain ⟨⟨u25, rfl, z26⟩, h24⟩ := h24
      rw [h24]
      show ml _ _ _ (147, [(3, .int u4), (0, .ref a), (1, .int x1), (2, .int x2)], [.int u25], M) _
      refine ml_if (S1 := (154, [], [], M)) (S2 := (150, [(3, .int u4), (0, .ref a), (1, .int x1), (2, .int x2)], [], M)) rfl rfl rfl (fun c_147 => ?_) (fun c_147 => ?_)
      · have c_147 : u25 = 0 := of_decide_eq_true c_147
        refine ml_st (S' := (155, [], [.int 0], M)) rfl rfl rfl ?_
        exact ml_ret rfl (r_z (Or.inl rfl)) (⟨⟨_, rfl, Or.inl rfl⟩, rfl⟩)
      · have c_147 : ¬ (u25 = 0) := of_decide_eq_false c_147
        refine ml_st (S' := (151, [(3, .int u4), (0, .ref a), (1, .int x1), (2, .int x2)], [.int 1], M)) rfl rfl rfl ?_
        refine ml_st (S' := (155, [], [.int 1], M)) rfl rfl rfl ?_
        exact ml_ret rfl (r_z (Or.inr rfl)) (⟨⟨_, rfl, Or.inr rfl⟩, rfl⟩)
  · show ml _ _ _ (156, [(3, .int u4), (0, .ref a), (1, .int x1), (2, .int x2)], [], M) _
    refine ml_blk 2 (S' := (159, [(3, .int u4), (0, .ref a), (1, .int x1), (2, .int x2)], [.int 11, .int u4], M)) rfl ?_
    refine ml_if2 (S1 := (177, [], [], M)) (S2 := (162, [(3, .int u4), (0, .ref a), (1, .int x1), (2, .int x2)], [], M)) rfl rfl rfl (fun c_159 => ?_) (fun c_159 => ?_)
    · have c_159 : ¬ u4 = 11 := of_decide_eq_true c_159
      refine ml_st (S' := (178, [], [.int 0], M)) rfl rfl rfl ?_
      exact ml_ret rfl (r_z (Or.inl rfl)) (⟨⟨_, rfl, Or.inl rfl⟩, rfl⟩)
    · have c_159 : ¬ (¬ u4 = 11) := of_decide_eq_false c_159
      refine ml_st (S' := (163, [(3, .int u4), (0, .ref a), (1, .int x1), (2, .int x2)], [.ref a], M)) rfl rfl rfl ?_
      refine tg_ref (S' := (166, [(3, .int u4), (0, .ref a), (1, .int x1), (2, .int x2)], [.ref p], M)) rfl hS.1 hY0 (by decide) rfl rfl ?_
      refine ml_st (S' := (167, [(3, .int u4), (0, .ref a), (1, .int x1), (2, .int x2)], [.int x2, .ref p], M)) rfl rfl rfl ?_
      refine ml_call (a := [.ref p, .int x2]) (rest := []) rfl (okc_t rfl rfl rfl hS.1 hY1 (by decide)) rfl rfl (tw_Po_namesInit hS.1 hY1 (by omega)) (fun v27 M28 h29 => ?_)
      obtain ⟨⟨u30, rfl, z31⟩, h29⟩ := h29
      rw [h29]
      show ml _ _ _ (170, [(3, .int u4), (0, .ref a), (1, .int x1), (2, .int x2)], [.int u30], M) _
      refine ml_if (S1 := (177, [], [], M)) (S2 := (173, [(3, .int u4), (0, .ref a), (1, .int x1), (2, .int x2)], [], M)) rfl rfl rfl (fun c_170 => ?_) (fun c_170 => ?_)
      · have c_170 : ¬ u30 = 0 := of_decide_eq_true c_170
        refine ml_st (S' := (178, [], [.int 0], M)) rfl rfl rfl ?_
        exact ml_ret rfl (r_z (Or.inl rfl)) (⟨⟨_, rfl, Or.inl rfl⟩, rfl⟩)
      · have c_170 : ¬ (¬ u30 = 0) := of_decide_eq_false c_170
        refine ml_st (S' := (174, [(3, .int u4), (0, .ref a), (1, .int x1), (2, .int x2)], [.int 1], M)) rfl rfl rfl ?_
        refine ml_st (S' := (178, [], [.int 1], M)) rfl rfl rfl ?_
        exact ml_ret rfl (r_z (Or.inr rfl)) (⟨⟨_, rfl, Or.inr rfl⟩, rfl⟩)
  · show ml _ _ _ (179, [(3, .int u4), (0, .ref a), (1, .int x1), (2, .int x2)], [], M) _
    refine ml_st (S' := (180, [(3, .int u4), (0, .ref a), (1, .int x1), (2, .int x2)], [.int 0], M)) rfl rfl rfl ?_
    exact ml_ret rfl (r_z (Or.inl rfl)) (⟨⟨_, rfl, Or.inl rfl⟩, rfl⟩)
set_option maxHeartbeats 2000000 in
theorem tw_Po_brokenRule {g : xe_G} {M : mi_H} {Y : yT} {a p vd : Nat} {pp : List Nat} {x1 : Int32}  (hW : WF g Y M) (hY0 : Y.1 a = some (8, [p, vd])) (hY1 : Y.1 p = some (7, pp)) (hY2 : Y.1 vd = some (10, [])) {d : Nat} (hd : 5 ≤ d) : mt (mT g) d 145 [.ref a, .int x1] M (pI M) := by
  obtain ⟨d, rfl⟩ : ∃ e, d = e + 1 := ⟨d - 1, by omega⟩
  have hS : st g Y M M := st.rf hW
  refine mt_in (b := mb_145 g) rfl rfl ?_
  show ml (mT g) d (mb_145 g).2 (0, [(0, .ref a), (1, .int x1)], [], M) _
  refine ml_st (S' := (1, [(0, .ref a), (1, .int x1)], [.ref a], M)) rfl rfl rfl ?_
  refine tg_ref (S' := (4, [(0, .ref a), (1, .int x1)], [.ref p], M)) rfl hS.1 hY0 (by decide) rfl rfl ?_
  refine ml_st (S' := (5, [(0, .ref a), (1, .int x1)], [.int x1, .ref p], M)) rfl rfl rfl ?_
  refine ml_call (a := [.ref p, .int x1]) (rest := []) rfl (okc_t rfl rfl rfl hS.1 hY1 (by decide)) rfl rfl (tq_tagOf hS.1 hY1 (by omega)) (fun v1 M2 h3 => ?_)
  obtain ⟨⟨u4, rfl⟩, h3⟩ := h3
  rw [h3]
  show ml _ _ _ (8, [(0, .ref a), (1, .int x1)], [.int u4], M) _
  refine ml_sw rfl (fun t_8 ht_8 => ?_)
  have kt_8 := ht_8
  have ht_8 : t_8 ∈ [72, 97, 112, 137, 152, 182, 207, 250, 293] := mi_sw_sub ht_8 (by decide)
  simp only [List.mem_cons, List.not_mem_nil, or_false] at ht_8
  rcases ht_8 with rfl | rfl | rfl | rfl | rfl | rfl | rfl | rfl | rfl
  · show ml _ _ _ (72, [(0, .ref a), (1, .int x1)], [], M) _
    refine ml_st (S' := (73, [(0, .ref a), (1, .int x1)], [.ref a], M)) rfl rfl rfl ?_
    refine tg_ref (S' := (76, [(0, .ref a), (1, .int x1)], [.ref p], M)) rfl hS.1 hY0 (by decide) rfl rfl ?_
    refine ml_st (S' := (77, [(0, .ref a), (1, .int x1)], [.ref a, .ref p], M)) rfl rfl rfl ?_
    refine tg_ref (S' := (80, [(0, .ref a), (1, .int x1)], [.ref p, .ref p], M)) rfl hS.1 hY0 (by decide) rfl rfl ?_
    refine ml_st (S' := (81, [(0, .ref a), (1, .int x1)], [.int x1, .ref p, .ref p], M)) rfl rfl rfl ?_
    refine ml_call (a := [.ref p, .int x1]) (rest := [.ref p]) rfl (okc_t rfl rfl rfl hS.1 hY1 (by decide)) rfl rfl (tq_firstIndex hS.1 hY1 (by omega)) (fun v5 M6 h7 => ?_)
    obtain ⟨⟨u8, rfl⟩, h7⟩ := h7
    rw [h7]
    show ml _ _ _ (84, [(0, .ref a), (1, .int x1)], [.int u8, .ref p], M) _
    refine ml_call (a := [.ref p, .int u8]) (rest := []) rfl (okc_t rfl rfl rfl hS.1 hY1 (by decide)) rfl rfl (tq_isClassText hS.1 hY1 (by omega)) (fun v9 M10 h11 => ?_)
    obtain ⟨⟨u12, rfl, z13⟩, h11⟩ := h11
    rw [h11]
    show ml _ _ _ (87, [(0, .ref a), (1, .int x1)], [.int u12], M) _
    refine ml_if (S1 := (94, [(0, .ref a), (1, .int x1)], [], M)) (S2 := (90, [(0, .ref a), (1, .int x1)], [], M)) rfl rfl rfl (fun c_87 => ?_) (fun c_87 => ?_)
    · have c_87 : u12 = 0 := of_decide_eq_true c_87
      refine ml_st (S' := (96, [], [.int 10], M)) rfl rfl rfl ?_
      exact ml_ret rfl (rfl) (⟨⟨_, rfl⟩, rfl⟩)
    · have c_87 : ¬ (u12 = 0) := of_decide_eq_false c_87
      refine ml_st (S' := (91, [(0, .ref a), (1, .int x1)], [.int 0], M)) rfl rfl rfl ?_
      refine ml_st (S' := (96, [], [.int 0], M)) rfl rfl rfl ?_
      exact ml_ret rfl (rfl) (⟨⟨_, rfl⟩, rfl⟩)
  · show ml _ _ _ (97, [(0, .ref a), (1, .int x1)], [], M) _
    refine ml_blk 2 (S' := (99, [(0, .ref a), (1, .int x1)], [.int x1, .ref a], M)) rfl ?_
    refine ml_call (a := [.ref a, .int x1]) (rest := []) rfl (okc_t rfl rfl rfl hS.1 hY0 (by decide)) rfl rfl (tw_Po_isNameWithType hS.1 hY0 hY1 hY2 (by omega)) (fun v14 M15 h16 => ?_)
    obtain ⟨⟨u17, rfl, z18⟩, h16⟩ := h16
    rw [h16]
    show ml _ _ _ (102, [(0, .ref a), (1, .int x1)], [.int u17], M) _
    refine ml_if (S1 := (109, [(0, .ref a), (1, .int x1)], [], M)) (S2 := (105, [(0, .ref a), (1, .int x1)], [], M)) rfl rfl rfl (fun c_102 => ?_) (fun c_102 => ?_)
    · have c_102 : u17 = 0 := of_decide_eq_true c_102
      refine ml_st (S' := (111, [], [.int 11], M)) rfl rfl rfl ?_
      exact ml_ret rfl (rfl) (⟨⟨_, rfl⟩, rfl⟩)
    · have c_102 : ¬ (u17 = 0) := of_decide_eq_false c_102
      refine ml_st (S' := (106, [(0, .ref a), (1, .int x1)], [.int 0], M)) rfl rfl rfl ?_
      refine ml_st (S' := (111, [], [.int 0], M)) rfl rfl rfl ?_
      exact ml_ret rfl (rfl) (⟨⟨_, rfl⟩, rfl⟩)
  · show ml _ _ _ (112, [(0, .ref a), (1, .int x1)], [], M) _
    refine ml_st (S' := (113, [(0, .ref a), (1, .int x1)], [.ref a], M)) rfl rfl rfl ?_
    refine tg_ref (S' := (116, [(0, .ref a), (1, .int x1)], [.ref p], M)) rfl hS.1 hY0 (by decide) rfl rfl ?_
    refine ml_st (S' := (117, [(0, .ref a), (1, .int x1)], [.ref a, .ref p], M)) rfl rfl rfl ?_
    refine tg_ref (S' := (120, [(0, .ref a), (1, .int x1)], [.ref p, .ref p], M)) rfl hS.1 hY0 (by decide) rfl rfl ?_
    refine ml_st (S' := (121, [(0, .ref a), (1, .int x1)], [.int x1, .ref p, .ref p], M)) rfl rfl rfl ?_
    refine ml_call (a := [.ref p, .int x1]) (rest := [.ref p]) rfl (okc_t rfl rfl rfl hS.1 hY1 (by decide)) rfl rfl (tq_descriptorOf hS.1 hY1 (by omega)) (fun v19 M20 h21 => ?_)
    obtain ⟨⟨u22, rfl⟩, h21⟩ := h21
    rw [h21]
    show ml _ _ _ (124, [(0, .ref a), (1, .int x1)], [.int u22, .ref p], M) _
    refine ml_call (a := [.ref p, .int u22]) (rest := []) rfl (okc_t rfl rfl rfl hS.1 hY1 (by decide)) rfl rfl (tq_isFieldDescriptor hS.1 hY1 (by omega)) (fun v23 M24 h25 => ?_)
    obtain ⟨⟨u26, rfl, z27⟩, h25⟩ := h25
    rw [h25]
    show ml _ _ _ (127, [(0, .ref a), (1, .int x1)], [.int u26], M) _
    refine ml_if (S1 := (134, [(0, .ref a), (1, .int x1)], [], M)) (S2 := (130, [(0, .ref a), (1, .int x1)], [], M)) rfl rfl rfl (fun c_127 => ?_) (fun c_127 => ?_)
    · have c_127 : u26 = 0 := of_decide_eq_true c_127
      refine ml_st (S' := (136, [], [.int 12], M)) rfl rfl rfl ?_
      exact ml_ret rfl (rfl) (⟨⟨_, rfl⟩, rfl⟩)
    · have c_127 : ¬ (u26 = 0) := of_decide_eq_false c_127
      refine ml_st (S' := (131, [(0, .ref a), (1, .int x1)], [.int 0], M)) rfl rfl rfl ?_
      refine ml_st (S' := (136, [], [.int 0], M)) rfl rfl rfl ?_
      exact ml_ret rfl (rfl) (⟨⟨_, rfl⟩, rfl⟩)
  · show ml _ _ _ (137, [(0, .ref a), (1, .int x1)], [], M) _
    refine ml_blk 2 (S' := (139, [(0, .ref a), (1, .int x1)], [.int x1, .ref a], M)) rfl ?_
    refine ml_call (a := [.ref a, .int x1]) (rest := []) rfl (okc_t rfl rfl rfl hS.1 hY0 (by decide)) rfl rfl (tw_Po_isMethodRef hS.1 hY0 hY1 hY2 (by omega)) (fun v28 M29 h30 => ?_)
    obtain ⟨⟨u31, rfl, z32⟩, h30⟩ := h30
    rw [h30]
    show ml _ _ _ (142, [(0, .ref a), (1, .int x1)], [.int u31], M) _
    refine ml_if (S1 := (149, [(0, .ref a), (1, .int x1)], [], M)) (S2 := (145, [(0, .ref a), (1, .int x1)], [], M)) rfl rfl rfl (fun c_142 => ?_) (fun c_142 => ?_)
    · have c_142 : u31 = 0 := of_decide_eq_true c_142
      refine ml_st (S' := (151, [], [.int 12], M)) rfl rfl rfl ?_
      exact ml_ret rfl (rfl) (⟨⟨_, rfl⟩, rfl⟩)
    · have c_142 : ¬ (u31 = 0) := of_decide_eq_false c_142
      refine ml_st (S' := (146, [(0, .ref a), (1, .int x1)], [.int 0], M)) rfl rfl rfl ?_
      refine ml_st (S' := (151, [], [.int 0], M)) rfl rfl rfl ?_
      exact ml_ret rfl (rfl) (⟨⟨_, rfl⟩, rfl⟩)
  · show ml _ _ _ (152, [(0, .ref a), (1, .int x1)], [], M) _
    refine ml_blk 2 (S' := (154, [(0, .ref a), (1, .int x1)], [.ref a, .ref a], M)) rfl ?_
    refine tg_ref (S' := (157, [(0, .ref a), (1, .int x1)], [.ref p, .ref a], M)) rfl hS.1 hY0 (by decide) rfl rfl ?_
    refine ml_st (S' := (158, [(0, .ref a), (1, .int x1)], [.int x1, .ref p, .ref a], M)) rfl rfl rfl ?_
    refine ml_call (a := [.ref p, .int x1]) (rest := [.ref a]) rfl (okc_t rfl rfl rfl hS.1 hY1 (by decide)) rfl rfl (tq_firstIndex hS.1 hY1 (by omega)) (fun v33 M34 h35 => ?_)
    obtain ⟨⟨u36, rfl⟩, h35⟩ := h35
    rw [h35]
    show ml _ _ _ (161, [(0, .ref a), (1, .int x1)], [.int u36, .ref a], M) _
    refine ml_st (S' := (162, [(0, .ref a), (1, .int x1)], [.ref a, .int u36, .ref a], M)) rfl rfl rfl ?_
    refine tg_ref (S' := (165, [(0, .ref a), (1, .int x1)], [.ref p, .int u36, .ref a], M)) rfl hS.1 hY0 (by decide) rfl rfl ?_
    refine ml_st (S' := (166, [(0, .ref a), (1, .int x1)], [.int x1, .ref p, .int u36, .ref a], M)) rfl rfl rfl ?_
    refine ml_call (a := [.ref p, .int x1]) (rest := [.int u36, .ref a]) rfl (okc_t rfl rfl rfl hS.1 hY1 (by decide)) rfl rfl (tq_secondIndex hS.1 hY1 (by omega)) (fun v37 M38 h39 => ?_)
    obtain ⟨⟨u40, rfl⟩, h39⟩ := h39
    rw [h39]
    show ml _ _ _ (169, [(0, .ref a), (1, .int x1)], [.int u40, .int u36, .ref a], M) _
    refine ml_call (a := [.ref a, .int u36, .int u40]) (rest := []) rfl (okc_t rfl rfl rfl hS.1 hY0 (by decide)) rfl rfl (tw_Po_isHandle hS.1 hY0 hY1 hY2 (by omega)) (fun v41 M42 h43 => ?_)
    obtain ⟨⟨u44, rfl, z45⟩, h43⟩ := h43
    rw [h43]
    show ml _ _ _ (172, [(0, .ref a), (1, .int x1)], [.int u44], M) _
    refine ml_if (S1 := (179, [(0, .ref a), (1, .int x1)], [], M)) (S2 := (175, [(0, .ref a), (1, .int x1)], [], M)) rfl rfl rfl (fun c_172 => ?_) (fun c_172 => ?_)
    · have c_172 : u44 = 0 := of_decide_eq_true c_172
      refine ml_st (S' := (181, [], [.int 13], M)) rfl rfl rfl ?_
      exact ml_ret rfl (rfl) (⟨⟨_, rfl⟩, rfl⟩)
    · have c_172 : ¬ (u44 = 0) := of_decide_eq_false c_172
      refine ml_st (S' := (176, [(0, .ref a), (1, .int x1)], [.int 0], M)) rfl rfl rfl ?_
      refine ml_st (S' := (181, [], [.int 0], M)) rfl rfl rfl ?_
      exact ml_ret rfl (rfl) (⟨⟨_, rfl⟩, rfl⟩)
  · show ml _ _ _ (182, [(0, .ref a), (1, .int x1)], [], M) _
    refine ml_st (S' := (183, [(0, .ref a), (1, .int x1)], [.ref a], M)) rfl rfl rfl ?_
    refine tg_ref (S' := (186, [(0, .ref a), (1, .int x1)], [.ref p], M)) rfl hS.1 hY0 (by decide) rfl rfl ?_
    refine ml_st (S' := (187, [(0, .ref a), (1, .int x1)], [.ref a, .ref p], M)) rfl rfl rfl ?_
    refine tg_ref (S' := (190, [(0, .ref a), (1, .int x1)], [.ref p, .ref p], M)) rfl hS.1 hY0 (by decide) rfl rfl ?_
    refine ml_st (S' := (191, [(0, .ref a), (1, .int x1)], [.int x1, .ref p, .ref p], M)) rfl rfl rfl ?_
    refine ml_call (a := [.ref p, .int x1]) (rest := [.ref p]) rfl (okc_t rfl rfl rfl hS.1 hY1 (by decide)) rfl rfl (tq_firstIndex hS.1 hY1 (by omega)) (fun v46 M47 h48 => ?_)
    obtain ⟨⟨u49, rfl⟩, h48⟩ := h48
    rw [h48]
    show ml _ _ _ (194, [(0, .ref a), (1, .int x1)], [.int u49, .ref p], M) _
    refine ml_call (a := [.ref p, .int u49]) (rest := []) rfl (okc_t rfl rfl rfl hS.1 hY1 (by decide)) rfl rfl (tq_isMethodDescriptor hS.1 hY1 (by omega)) (fun v50 M51 h52 => ?_)
    obtain ⟨⟨u53, rfl, z54⟩, h52⟩ := h52
    rw [h52]
    show ml _ _ _ (197, [(0, .ref a), (1, .int x1)], [.int u53], M) _
    refine ml_if (S1 := (204, [(0, .ref a), (1, .int x1)], [], M)) (S2 := (200, [(0, .ref a), (1, .int x1)], [], M)) rfl rfl rfl (fun c_197 => ?_) (fun c_197 => ?_)
    · have c_197 : u53 = 0 := of_decide_eq_true c_197
      refine ml_st (S' := (206, [], [.int 14], M)) rfl rfl rfl ?_
      exact ml_ret rfl (rfl) (⟨⟨_, rfl⟩, rfl⟩)
    · have c_197 : ¬ (u53 = 0) := of_decide_eq_false c_197
      refine ml_st (S' := (201, [(0, .ref a), (1, .int x1)], [.int 0], M)) rfl rfl rfl ?_
      refine ml_st (S' := (206, [], [.int 0], M)) rfl rfl rfl ?_
      exact ml_ret rfl (rfl) (⟨⟨_, rfl⟩, rfl⟩)
  · show ml _ _ _ (207, [(0, .ref a), (1, .int x1)], [], M) _
    refine ml_st (S' := (208, [(0, .ref a), (1, .int x1)], [.ref a], M)) rfl rfl rfl ?_
    refine tg_ref (S' := (211, [(0, .ref a), (1, .int x1)], [.ref p], M)) rfl hS.1 hY0 (by decide) rfl rfl ?_
    refine ml_st (S' := (212, [(0, .ref a), (1, .int x1)], [.ref a, .ref p], M)) rfl rfl rfl ?_
    refine tg_ref (S' := (215, [(0, .ref a), (1, .int x1)], [.ref p, .ref p], M)) rfl hS.1 hY0 (by decide) rfl rfl ?_
    refine ml_st (S' := (216, [(0, .ref a), (1, .int x1)], [.int x1, .ref p, .ref p], M)) rfl rfl rfl ?_
    refine ml_call (a := [.ref p, .int x1]) (rest := [.ref p]) rfl (okc_t rfl rfl rfl hS.1 hY1 (by decide)) rfl rfl (tq_descriptorOf hS.1 hY1 (by omega)) (fun v55 M56 h57 => ?_)
    obtain ⟨⟨u58, rfl⟩, h57⟩ := h57
    rw [h57]
    show ml _ _ _ (219, [(0, .ref a), (1, .int x1)], [.int u58, .ref p], M) _
    refine ml_call (a := [.ref p, .int u58]) (rest := []) rfl (okc_t rfl rfl rfl hS.1 hY1 (by decide)) rfl rfl (tq_isFieldDescriptor hS.1 hY1 (by omega)) (fun v59 M60 h61 => ?_)
    obtain ⟨⟨u62, rfl, z63⟩, h61⟩ := h61
    rw [h61]
    show ml _ _ _ (222, [(0, .ref a), (1, .int x1)], [.int u62], M) _
    refine ml_if (S1 := (247, [], [], M)) (S2 := (225, [(0, .ref a), (1, .int x1)], [], M)) rfl rfl rfl (fun c_222 => ?_) (fun c_222 => ?_)
    · have c_222 : u62 = 0 := of_decide_eq_true c_222
      refine ml_st (S' := (249, [], [.int 14], M)) rfl rfl rfl ?_
      exact ml_ret rfl (rfl) (⟨⟨_, rfl⟩, rfl⟩)
    · have c_222 : ¬ (u62 = 0) := of_decide_eq_false c_222
      refine ml_st (S' := (226, [(0, .ref a), (1, .int x1)], [.ref a], M)) rfl rfl rfl ?_
      refine tg_ref (S' := (229, [(0, .ref a), (1, .int x1)], [.ref p], M)) rfl hS.1 hY0 (by decide) rfl rfl ?_
      refine ml_st (S' := (230, [(0, .ref a), (1, .int x1)], [.ref a, .ref p], M)) rfl rfl rfl ?_
      refine tg_ref (S' := (233, [(0, .ref a), (1, .int x1)], [.ref p, .ref p], M)) rfl hS.1 hY0 (by decide) rfl rfl ?_
      refine ml_st (S' := (234, [(0, .ref a), (1, .int x1)], [.int x1, .ref p, .ref p], M)) rfl rfl rfl ?_
      refine ml_call (a := [.ref p, .int x1]) (rest := [.ref p]) rfl (okc_t rfl rfl rfl hS.1 hY1 (by decide)) rfl rfl (tq_nameOf hS.1 hY1 (by omega)) (fun v64 M65 h66 => ?_)
      obtain ⟨⟨u67, rfl⟩, h66⟩ := h66
      rw [h66]
      show ml _ _ _ (237, [(0, .ref a), (1, .int x1)], [.int u67, .ref p], M) _
      refine ml_call (a := [.ref p, .int u67]) (rest := []) rfl (okc_t rfl rfl rfl hS.1 hY1 (by decide)) rfl rfl (tq_hasAngle hS.1 hY1 (by omega)) (fun v68 M69 h70 => ?_)
      obtain ⟨⟨u71, rfl, z72⟩, h70⟩ := h70
      rw [h70]
      show ml _ _ _ (240, [(0, .ref a), (1, .int x1)], [.int u71], M) _
      refine ml_if (S1 := (247, [], [], M)) (S2 := (243, [(0, .ref a), (1, .int x1)], [], M)) rfl rfl rfl (fun c_240 => ?_) (fun c_240 => ?_)
      · have c_240 : ¬ u71 = 0 := of_decide_eq_true c_240
        refine ml_st (S' := (249, [], [.int 14], M)) rfl rfl rfl ?_
        exact ml_ret rfl (rfl) (⟨⟨_, rfl⟩, rfl⟩)
      · have c_240 : ¬ (¬ u71 = 0) := of_decide_eq_false c_240
        refine ml_st (S' := (244, [(0, .ref a), (1, .int x1)], [.int 0], M)) rfl rfl rfl ?_
        refine ml_st (S' := (249, [], [.int 0], M)) rfl rfl rfl ?_
        exact ml_ret rfl (rfl) (⟨⟨_, rfl⟩, rfl⟩)
  · show ml _ _ _ (250, [(0, .ref a), (1, .int x1)], [], M) _
    refine ml_st (S' := (251, [(0, .ref a), (1, .int x1)], [.ref a], M)) rfl rfl rfl ?_
    refine tg_ref (S' := (254, [(0, .ref a), (1, .int x1)], [.ref p], M)) rfl hS.1 hY0 (by decide) rfl rfl ?_
    refine ml_st (S' := (255, [(0, .ref a), (1, .int x1)], [.ref a, .ref p], M)) rfl rfl rfl ?_
    refine tg_ref (S' := (258, [(0, .ref a), (1, .int x1)], [.ref p, .ref p], M)) rfl hS.1 hY0 (by decide) rfl rfl ?_
    refine ml_st (S' := (259, [(0, .ref a), (1, .int x1)], [.int x1, .ref p, .ref p], M)) rfl rfl rfl ?_
    refine ml_call (a := [.ref p, .int x1]) (rest := [.ref p]) rfl (okc_t rfl rfl rfl hS.1 hY1 (by decide)) rfl rfl (tq_descriptorOf hS.1 hY1 (by omega)) (fun v73 M74 h75 => ?_)
    obtain ⟨⟨u76, rfl⟩, h75⟩ := h75
    rw [h75]
    show ml _ _ _ (262, [(0, .ref a), (1, .int x1)], [.int u76, .ref p], M) _
    refine ml_call (a := [.ref p, .int u76]) (rest := []) rfl (okc_t rfl rfl rfl hS.1 hY1 (by decide)) rfl rfl (tq_isMethodDescriptor hS.1 hY1 (by omega)) (fun v77 M78 h79 => ?_)
    obtain ⟨⟨u80, rfl, z81⟩, h79⟩ := h79
    rw [h79]
    show ml _ _ _ (265, [(0, .ref a), (1, .int x1)], [.int u80], M) _
    refine ml_if (S1 := (290, [], [], M)) (S2 := (268, [(0, .ref a), (1, .int x1)], [], M)) rfl rfl rfl (fun c_265 => ?_) (fun c_265 => ?_)
    · have c_265 : u80 = 0 := of_decide_eq_true c_265
      refine ml_st (S' := (292, [], [.int 14], M)) rfl rfl rfl ?_
      exact ml_ret rfl (rfl) (⟨⟨_, rfl⟩, rfl⟩)
    · have c_265 : ¬ (u80 = 0) := of_decide_eq_false c_265
      refine ml_st (S' := (269, [(0, .ref a), (1, .int x1)], [.ref a], M)) rfl rfl rfl ?_
      refine tg_ref (S' := (272, [(0, .ref a), (1, .int x1)], [.ref p], M)) rfl hS.1 hY0 (by decide) rfl rfl ?_
      refine ml_st (S' := (273, [(0, .ref a), (1, .int x1)], [.ref a, .ref p], M)) rfl rfl rfl ?_
      refine tg_ref (S' := (276, [(0, .ref a), (1, .int x1)], [.ref p, .ref p], M)) rfl hS.1 hY0 (by decide) rfl rfl ?_
      refine ml_st (S' := (277, [(0, .ref a), (1, .int x1)], [.int x1, .ref p, .ref p], M)) rfl rfl rfl ?_
      refine ml_call (a := [.ref p, .int x1]) (rest := [.ref p]) rfl (okc_t rfl rfl rfl hS.1 hY1 (by decide)) rfl rfl (tq_nameOf hS.1 hY1 (by omega)) (fun v82 M83 h84 => ?_)
      obtain ⟨⟨u85, rfl⟩, h84⟩ := h84
      rw [h84]
      show ml _ _ _ (280, [(0, .ref a), (1, .int x1)], [.int u85, .ref p], M) _
      refine ml_call (a := [.ref p, .int u85]) (rest := []) rfl (okc_t rfl rfl rfl hS.1 hY1 (by decide)) rfl rfl (tq_hasAngle hS.1 hY1 (by omega)) (fun v86 M87 h88 => ?_)
      obtain ⟨⟨u89, rfl, z90⟩, h88⟩ := h88
      rw [h88]
      show ml _ _ _ (283, [(0, .ref a), (1, .int x1)], [.int u89], M) _
      refine ml_if (S1 := (290, [], [], M)) (S2 := (286, [(0, .ref a), (1, .int x1)], [], M)) rfl rfl rfl (fun c_283 => ?_) (fun c_283 => ?_)
      · have c_283 : ¬ u89 = 0 := of_decide_eq_true c_283
        refine ml_st (S' := (292, [], [.int 14], M)) rfl rfl rfl ?_
        exact ml_ret rfl (rfl) (⟨⟨_, rfl⟩, rfl⟩)
      · have c_283 : ¬ (¬ u89 = 0) := of_decide_eq_false c_283
        refine ml_st (S' := (287, [(0, .ref a), (1, .int x1)], [.int 0], M)) rfl rfl rfl ?_
        refine ml_st (S' := (292, [], [.int 0], M)) rfl rfl rfl ?_
        exact ml_ret rfl (rfl) (⟨⟨_, rfl⟩, rfl⟩)
  · show ml _ _ _ (293, [(0, .ref a), (1, .int x1)], [], M) _
    refine ml_st (S' := (294, [(0, .ref a), (1, .int x1)], [.int 0], M)) rfl rfl rfl ?_
    exact ml_ret rfl (rfl) (⟨⟨_, rfl⟩, rfl⟩)
set_option maxHeartbeats 2000000 in
theorem tw_Po_entriesHold {g : xe_G} {M : mi_H} {Y : yT} {a p vd : Nat} {pp : List Nat}  (hW : WF g Y M) (hY0 : Y.1 a = some (8, [p, vd])) (hY1 : Y.1 p = some (7, pp)) (hY2 : Y.1 vd = some (10, [])) {d : Nat} (hd : 6 ≤ d) : mt (mT g) d 146 [.ref a] M (qZ g Y M) := by
  obtain ⟨d, rfl⟩ : ∃ e, d = e + 1 := ⟨d - 1, by omega⟩
  have hS : st g Y M M := st.rf hW
  refine mt_in (b := mb_146 g) rfl rfl ?_
  show ml (mT g) d (mb_146 g).2 (0, [(0, .ref a)], [], M) _
  refine ml_st (S' := (1, [(0, .ref a)], [.int 1], M)) rfl rfl rfl ?_
  refine ml_st (S' := (2, [(0, .ref a), (1, .int 1)], [], M)) rfl rfl rfl ?_
  have L_2 : ∀ (n_2 : Nat) (i2_1 : Int32), (2147483648 - i2_1.toInt).toNat ≤ n_2 → ml (mT g) d (mb_146 g).2 (2, [(0, .ref a), (1, .int i2_1)], [], M) (qZ g Y M) := by
    intro n_2
    induction n_2 with
    | zero => intro i2_1 hn; exact (loop_zero hn).elim
    | succ n_2 ih_2 =>
      intro i2_1 hn_2
      refine ml_blk 2 (S' := (4, [(0, .ref a), (1, .int i2_1)], [.ref a, .int i2_1], M)) rfl ?_
      refine tg_ref (S' := (7, [(0, .ref a), (1, .int i2_1)], [.ref p, .int i2_1], M)) rfl hS.1 hY0 (by decide) rfl rfl ?_
      refine tg_pint rfl hS.1 hY1 rfl (fun u1 g2 => ?_)
      show ml _ _ _ (10, [(0, .ref a), (1, .int i2_1)], [.int u1, .int i2_1], M) _
      refine ml_if2 (S1 := (59, [(0, .ref a), (1, .int i2_1)], [], M)) (S2 := (13, [(0, .ref a), (1, .int i2_1)], [], M)) rfl rfl rfl (fun c_10 => ?_) (fun c_10 => ?_)
      · have c_10 : u1 ≤ i2_1 := of_decide_eq_true c_10
        refine ml_st (S' := (60, [(0, .ref a), (1, .int i2_1)], [.int 1], M)) rfl rfl rfl ?_
        exact ml_ret rfl (r_z (Or.inr rfl)) (⟨⟨_, rfl, Or.inr rfl⟩, hS⟩)
      · have c_10 : ¬ (u1 ≤ i2_1) := of_decide_eq_false c_10
        refine ml_blk 2 (S' := (15, [(0, .ref a), (1, .int i2_1)], [.int i2_1, .ref a], M)) rfl ?_
        refine ml_call (a := [.ref a, .int i2_1]) (rest := []) rfl (okc_t rfl rfl rfl hS.1 hY0 (by decide)) rfl rfl (tw_Po_linksHold hS.1 hY0 hY1 hY2 (by omega)) (fun v3 M4 h5 => ?_)
        obtain ⟨⟨u6, rfl, z7⟩, h5⟩ := h5
        rw [h5]
        show ml _ _ _ (18, [(0, .ref a), (1, .int i2_1)], [.int u6], M) _
        have J_31 : ∀ (s31_0 : Int32), ml (mT g) d (mb_146 g).2 (31, [(0, .ref a), (1, .int i2_1)], [.int s31_0], M) (qZ g Y M) := by
          intro s31_0
          refine ml_st (S' := (32, [(2, .int s31_0), (0, .ref a), (1, .int i2_1)], [], M)) rfl rfl rfl ?_
          refine ml_st (S' := (33, [(2, .int s31_0), (0, .ref a), (1, .int i2_1)], [.int s31_0], M)) rfl rfl rfl ?_
          refine ml_if (S1 := (53, [(2, .int s31_0), (0, .ref a), (1, .int i2_1)], [], M)) (S2 := (36, [(2, .int s31_0), (0, .ref a), (1, .int i2_1)], [], M)) rfl rfl rfl (fun c_33 => ?_) (fun c_33 => ?_)
          · have c_33 : s31_0 = 0 := of_decide_eq_true c_33
            refine ml_st (S' := (56, [(1, .int (i2_1 + 1)), (2, .int s31_0), (0, .ref a)], [], M)) rfl rfl rfl ?_
            refine ml_st (S' := (2, [(0, .ref a), (1, .int (i2_1 + 1))], [], M)) rfl rfl rfl ?_
            exact ih_2 (i2_1 + 1) (loop_inc (Int32.not_le.mp c_10) hn_2) 
          · have c_33 : ¬ (s31_0 = 0) := of_decide_eq_false c_33
            refine ml_st (S' := (37, [(2, .int s31_0), (0, .ref a), (1, .int i2_1)], [.ref a], M)) rfl rfl rfl ?_
            refine tg_ref (S' := (40, [(2, .int s31_0), (0, .ref a), (1, .int i2_1)], [.ref vd], M)) rfl hS.1 hY0 (by decide) rfl rfl ?_
            refine ml_blk 2 (S' := (42, [(2, .int s31_0), (0, .ref a), (1, .int i2_1)], [.ref a, .int s31_0, .ref vd], M)) rfl ?_
            refine tg_ref (S' := (45, [(2, .int s31_0), (0, .ref a), (1, .int i2_1)], [.ref p, .int s31_0, .ref vd], M)) rfl hS.1 hY0 (by decide) rfl rfl ?_
            refine ml_st (S' := (46, [(2, .int s31_0), (0, .ref a), (1, .int i2_1)], [.int i2_1, .ref p, .int s31_0, .ref vd], M)) rfl rfl rfl ?_
            refine ml_call (a := [.ref p, .int i2_1]) (rest := [.int s31_0, .ref vd]) rfl (okc_t rfl rfl rfl hS.1 hY1 (by decide)) rfl rfl (tq_tagPlace hS.1 hY1 (by omega)) (fun v8 M9 h10 => ?_)
            obtain ⟨⟨u11, rfl⟩, h10⟩ := h10
            rw [h10]
            show ml _ _ _ (49, [(2, .int s31_0), (0, .ref a), (1, .int i2_1)], [.int u11, .int s31_0, .ref vd], M) _
            refine ml_call (a := [.ref vd, .int s31_0, .int u11]) (rest := []) rfl (okc_t rfl rfl rfl hS.1 hY2 (by decide)) rfl rfl (tw_Ve_wrong hS.1 hY2 (by omega)) (fun v12 M13 h14 => ?_)
            obtain ⟨rfl, h14⟩ := h14
            have hS16 := hS.tr h14.1
            show ml _ _ _ (52, [(2, .int s31_0), (0, .ref a), (1, .int i2_1)], [.int 0], M13) _
            exact ml_ret rfl (r_z (Or.inl rfl)) (⟨⟨_, rfl, Or.inl rfl⟩, hS16⟩)
        refine ml_if (S1 := (29, [(0, .ref a), (1, .int i2_1)], [], M)) (S2 := (21, [(0, .ref a), (1, .int i2_1)], [], M)) rfl rfl rfl (fun c_18 => ?_) (fun c_18 => ?_)
        · have c_18 : u6 = 0 := of_decide_eq_true c_18
          refine ml_st (S' := (31, [(0, .ref a), (1, .int i2_1)], [.int 9], M)) rfl rfl rfl ?_
          exact J_31 9
        · have c_18 : ¬ (u6 = 0) := of_decide_eq_false c_18
          refine ml_blk 2 (S' := (23, [(0, .ref a), (1, .int i2_1)], [.int i2_1, .ref a], M)) rfl ?_
          refine ml_call (a := [.ref a, .int i2_1]) (rest := []) rfl (okc_t rfl rfl rfl hS.1 hY0 (by decide)) rfl rfl (tw_Po_brokenRule hS.1 hY0 hY1 hY2 (by omega)) (fun v17 M18 h19 => ?_)
          obtain ⟨⟨u20, rfl⟩, h19⟩ := h19
          rw [h19]
          show ml _ _ _ (26, [(0, .ref a), (1, .int i2_1)], [.int u20], M) _
          refine ml_st (S' := (31, [(0, .ref a), (1, .int i2_1)], [.int u20], M)) rfl rfl rfl ?_
          exact J_31 u20
  exact L_2 _ 1 (Nat.le_refl _) 
set_option maxHeartbeats 2000000 in
theorem tw_Po_bootstrapsHold {g : xe_G} {M : mi_H} {Y : yT} {a p vd : Nat} {pp : List Nat} {x1 : Int32}  (hW : WF g Y M) (hY0 : Y.1 a = some (8, [p, vd])) (hY1 : Y.1 p = some (7, pp)) (hY2 : Y.1 vd = some (10, [])) {d : Nat} (hd : 2 ≤ d) : mt (mT g) d 144 [.ref a, .int x1] M (qZ g Y M) := by
  obtain ⟨d, rfl⟩ : ∃ e, d = e + 1 := ⟨d - 1, by omega⟩
  have hS : st g Y M M := st.rf hW
  refine mt_in (b := mb_144 g) rfl rfl ?_
  show ml (mT g) d (mb_144 g).2 (0, [(0, .ref a), (1, .int x1)], [], M) _
  refine ml_st (S' := (1, [(0, .ref a), (1, .int x1)], [.int 1], M)) rfl rfl rfl ?_
  refine ml_st (S' := (2, [(0, .ref a), (1, .int x1), (2, .int 1)], [], M)) rfl rfl rfl ?_
  have L_2 : ∀ (n_2 : Nat) (i2_2 : Int32), (2147483648 - i2_2.toInt).toNat ≤ n_2 → ml (mT g) d (mb_144 g).2 (2, [(0, .ref a), (1, .int x1), (2, .int i2_2)], [], M) (qZ g Y M) := by
    intro n_2
    induction n_2 with
    | zero => intro i2_2 hn; exact (loop_zero hn).elim
    | succ n_2 ih_2 =>
      intro i2_2 hn_2
      refine ml_blk 2 (S' := (4, [(0, .ref a), (1, .int x1), (2, .int i2_2)], [.ref a, .int i2_2], M)) rfl ?_
      refine tg_ref (S' := (7, [(0, .ref a), (1, .int x1), (2, .int i2_2)], [.ref p, .int i2_2], M)) rfl hS.1 hY0 (by decide) rfl rfl ?_
      refine tg_pint rfl hS.1 hY1 rfl (fun u1 g2 => ?_)
      show ml _ _ _ (10, [(0, .ref a), (1, .int x1), (2, .int i2_2)], [.int u1, .int i2_2], M) _
      refine ml_if2 (S1 := (70, [(0, .ref a), (1, .int x1), (2, .int i2_2)], [], M)) (S2 := (13, [(0, .ref a), (1, .int x1), (2, .int i2_2)], [], M)) rfl rfl rfl (fun c_10 => ?_) (fun c_10 => ?_)
      · have c_10 : u1 ≤ i2_2 := of_decide_eq_true c_10
        refine ml_st (S' := (71, [(0, .ref a), (1, .int x1), (2, .int i2_2)], [.int 1], M)) rfl rfl rfl ?_
        exact ml_ret rfl (r_z (Or.inr rfl)) (⟨⟨_, rfl, Or.inr rfl⟩, hS⟩)
      · have c_10 : ¬ (u1 ≤ i2_2) := of_decide_eq_false c_10
        refine ml_st (S' := (14, [(0, .ref a), (1, .int x1), (2, .int i2_2)], [.ref a], M)) rfl rfl rfl ?_
        refine tg_ref (S' := (17, [(0, .ref a), (1, .int x1), (2, .int i2_2)], [.ref p], M)) rfl hS.1 hY0 (by decide) rfl rfl ?_
        refine ml_st (S' := (18, [(0, .ref a), (1, .int x1), (2, .int i2_2)], [.int i2_2, .ref p], M)) rfl rfl rfl ?_
        refine ml_call (a := [.ref p, .int i2_2]) (rest := []) rfl (okc_t rfl rfl rfl hS.1 hY1 (by decide)) rfl rfl (tq_tagOf hS.1 hY1 (by omega)) (fun v3 M4 h5 => ?_)
        obtain ⟨⟨u6, rfl⟩, h5⟩ := h5
        rw [h5]
        show ml _ _ _ (21, [(0, .ref a), (1, .int x1), (2, .int i2_2)], [.int u6], M) _
        refine ml_st (S' := (22, [(3, .int u6), (0, .ref a), (1, .int x1), (2, .int i2_2)], [], M)) rfl rfl rfl ?_
        refine ml_blk 2 (S' := (25, [(3, .int u6), (0, .ref a), (1, .int x1), (2, .int i2_2)], [.int 17, .int u6], M)) rfl ?_
        have J_34 : ml (mT g) d (mb_144 g).2 (34, [(0, .ref a), (1, .int x1), (2, .int i2_2)], [], M) (qZ g Y M) := by
          refine ml_st (S' := (35, [(0, .ref a), (1, .int x1), (2, .int i2_2)], [.ref a], M)) rfl rfl rfl ?_
          refine tg_ref (S' := (38, [(0, .ref a), (1, .int x1), (2, .int i2_2)], [.ref p], M)) rfl hS.1 hY0 (by decide) rfl rfl ?_
          refine ml_st (S' := (39, [(0, .ref a), (1, .int x1), (2, .int i2_2)], [.int i2_2, .ref p], M)) rfl rfl rfl ?_
          refine ml_call (a := [.ref p, .int i2_2]) (rest := []) rfl (okc_t rfl rfl rfl hS.1 hY1 (by decide)) rfl rfl (tq_firstIndex hS.1 hY1 (by omega)) (fun v7 M8 h9 => ?_)
          obtain ⟨⟨u10, rfl⟩, h9⟩ := h9
          rw [h9]
          show ml _ _ _ (42, [(0, .ref a), (1, .int x1), (2, .int i2_2)], [.int u10], M) _
          refine ml_st (S' := (43, [(0, .ref a), (1, .int x1), (2, .int i2_2)], [.int x1, .int u10], M)) rfl rfl rfl ?_
          refine ml_if2 (S1 := (64, [(0, .ref a), (1, .int x1), (2, .int i2_2)], [], M)) (S2 := (46, [(0, .ref a), (1, .int x1), (2, .int i2_2)], [], M)) rfl rfl rfl (fun c_43 => ?_) (fun c_43 => ?_)
          · have c_43 : u10 < x1 := of_decide_eq_true c_43
            refine ml_st (S' := (67, [(2, .int (i2_2 + 1)), (0, .ref a), (1, .int x1)], [], M)) rfl rfl rfl ?_
            refine ml_st (S' := (2, [(0, .ref a), (1, .int x1), (2, .int (i2_2 + 1))], [], M)) rfl rfl rfl ?_
            exact ih_2 (i2_2 + 1) (loop_inc (Int32.not_le.mp c_10) hn_2) 
          · have c_43 : ¬ (u10 < x1) := of_decide_eq_false c_43
            refine ml_st (S' := (47, [(0, .ref a), (1, .int x1), (2, .int i2_2)], [.ref a], M)) rfl rfl rfl ?_
            refine tg_ref (S' := (50, [(0, .ref a), (1, .int x1), (2, .int i2_2)], [.ref vd], M)) rfl hS.1 hY0 (by decide) rfl rfl ?_
            refine ml_blk 2 (S' := (53, [(0, .ref a), (1, .int x1), (2, .int i2_2)], [.ref a, .int 40, .ref vd], M)) rfl ?_
            refine tg_ref (S' := (56, [(0, .ref a), (1, .int x1), (2, .int i2_2)], [.ref p, .int 40, .ref vd], M)) rfl hS.1 hY0 (by decide) rfl rfl ?_
            refine ml_st (S' := (57, [(0, .ref a), (1, .int x1), (2, .int i2_2)], [.int i2_2, .ref p, .int 40, .ref vd], M)) rfl rfl rfl ?_
            refine ml_call (a := [.ref p, .int i2_2]) (rest := [.int 40, .ref vd]) rfl (okc_t rfl rfl rfl hS.1 hY1 (by decide)) rfl rfl (tq_tagPlace hS.1 hY1 (by omega)) (fun v11 M12 h13 => ?_)
            obtain ⟨⟨u14, rfl⟩, h13⟩ := h13
            rw [h13]
            show ml _ _ _ (60, [(0, .ref a), (1, .int x1), (2, .int i2_2)], [.int u14, .int 40, .ref vd], M) _
            refine ml_call (a := [.ref vd, .int 40, .int u14]) (rest := []) rfl (okc_t rfl rfl rfl hS.1 hY2 (by decide)) rfl rfl (tw_Ve_wrong hS.1 hY2 (by omega)) (fun v15 M16 h17 => ?_)
            obtain ⟨rfl, h17⟩ := h17
            have hS19 := hS.tr h17.1
            show ml _ _ _ (63, [(0, .ref a), (1, .int x1), (2, .int i2_2)], [.int 0], M16) _
            exact ml_ret rfl (r_z (Or.inl rfl)) (⟨⟨_, rfl, Or.inl rfl⟩, hS19⟩)
        refine ml_if2 (S1 := (34, [(0, .ref a), (1, .int x1), (2, .int i2_2)], [], M)) (S2 := (28, [(3, .int u6), (0, .ref a), (1, .int x1), (2, .int i2_2)], [], M)) rfl rfl rfl (fun c_25 => ?_) (fun c_25 => ?_)
        · have c_25 : u6 = 17 := of_decide_eq_true c_25
          exact J_34 
        · have c_25 : ¬ (u6 = 17) := of_decide_eq_false c_25
          refine ml_blk 2 (S' := (31, [(3, .int u6), (0, .ref a), (1, .int x1), (2, .int i2_2)], [.int 18, .int u6], M)) rfl ?_
          refine ml_if2 (S1 := (64, [(0, .ref a), (1, .int x1), (2, .int i2_2)], [], M)) (S2 := (34, [(0, .ref a), (1, .int x1), (2, .int i2_2)], [], M)) rfl rfl rfl (fun c_31 => ?_) (fun c_31 => ?_)
          · have c_31 : ¬ u6 = 18 := of_decide_eq_true c_31
            refine ml_st (S' := (67, [(2, .int (i2_2 + 1)), (0, .ref a), (1, .int x1)], [], M)) rfl rfl rfl ?_
            refine ml_st (S' := (2, [(0, .ref a), (1, .int x1), (2, .int (i2_2 + 1))], [], M)) rfl rfl rfl ?_
            exact ih_2 (i2_2 + 1) (loop_inc (Int32.not_le.mp c_10) hn_2) 
          · have c_31 : ¬ (¬ u6 = 18) := of_decide_eq_false c_31
            exact J_34 
  exact L_2 _ 1 (Nat.le_refl _) 
