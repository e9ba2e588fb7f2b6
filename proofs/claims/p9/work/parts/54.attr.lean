/-! attributes of methods (laid by wip/p2/c54.py) -/
set_option maxHeartbeats 2000000 in
theorem tx_hasSeen {g : xe_G} {M : mi_H} {Y : yT} {a c b p vd da n : Nat} {pp : List Nat} {x1 : Int32} {sn : Int32} (hW : WF g Y M) (hY0 : Y.1 a = some (0, [c, b, p, vd])) (hY1 : Y.1 c = some (3, [b, da, n])) (hY2 : Y.1 b = some (1, [da, n])) (hY3 : Y.1 p = some (7, pp)) (hY4 : Y.1 vd = some (10, [])) (hsn : mi_gf M a 0 4 = some (.int sn)) {d : Nat} (hd : 1 ≤ d) : mt (mT g) d 33 [.ref a, .int x1] M (fun v M' => (∃ x : Int32, v = some (.int x) ∧ (x = 0 ∧ ((sn >>> (x1 &&& 31)) &&& 1) = 0 ∨ x = 1)) ∧ M' = M) := by
  obtain ⟨d, rfl⟩ : ∃ e, d = e + 1 := ⟨d - 1, by omega⟩
  have hS : st g Y M M := st.rf hW
  refine mt_in (b := mb_33 g) rfl rfl ?_
  show ml (mT g) d (mb_33 g).2 (0, [(0, .ref a), (1, .int x1)], [], M) _
  refine ml_st (S' := (1, [(0, .ref a), (1, .int x1)], [.ref a], M)) rfl rfl rfl ?_
  refine ml_get (S' := (4, [(0, .ref a), (1, .int x1)], [.int sn], M)) rfl hsn rfl ?_
  refine ml_blk 3 (S' := (7, [(0, .ref a), (1, .int x1)], [.int 1, .int (sn >>> (x1 &&& 31))], M)) rfl ?_
  refine ml_st (S' := (8, [(0, .ref a), (1, .int x1)], [.int ((sn >>> (x1 &&& 31)) &&& 1)], M)) rfl rfl rfl ?_
  refine ml_if (S1 := (15, [(0, .ref a), (1, .int x1)], [], M)) (S2 := (11, [(0, .ref a), (1, .int x1)], [], M)) rfl rfl rfl (fun c_8 => ?_) (fun c_8 => ?_)
  · have c_8 : ((sn >>> (x1 &&& 31)) &&& 1) = 0 := of_decide_eq_true c_8
    refine ml_st (S' := (16, [], [.int 0], M)) rfl rfl rfl ?_
    exact ml_ret rfl (r_z (Or.inl rfl)) (⟨⟨_, rfl, Or.inl ⟨rfl, c_8⟩⟩, rfl⟩)
  · have c_8 : ¬ (((sn >>> (x1 &&& 31)) &&& 1) = 0) := of_decide_eq_false c_8
    refine ml_st (S' := (12, [(0, .ref a), (1, .int x1)], [.int 1], M)) rfl rfl rfl ?_
    refine ml_st (S' := (16, [], [.int 1], M)) rfl rfl rfl ?_
    exact ml_ret rfl (r_z (Or.inr rfl)) (⟨⟨_, rfl, Or.inr rfl⟩, rfl⟩)
set_option maxHeartbeats 2000000 in
theorem tx_behind {g : xe_G} {M : mi_H} {Y : yT} {a c b p vd da n : Nat} {pp : List Nat} {x1 : Int32}  (hW : WF g Y M) (hY0 : Y.1 a = some (0, [c, b, p, vd])) (hY1 : Y.1 c = some (3, [b, da, n])) (hY2 : Y.1 b = some (1, [da, n])) (hY3 : Y.1 p = some (7, pp)) (hY4 : Y.1 vd = some (10, [])) {d : Nat} (hd : 2 ≤ d) : mt (mT g) d 23 [.ref a, .int x1] M (fun v M' => v = some (.int ((x1 + 6) + (sp_u4 n (Y.2 da) (x1 + 2)))) ∧ M' = M) := by
  obtain ⟨d, rfl⟩ : ∃ e, d = e + 1 := ⟨d - 1, by omega⟩
  have hS : st g Y M M := st.rf hW
  refine mt_in (b := mb_23 g) rfl rfl ?_
  show ml (mT g) d (mb_23 g).2 (0, [(0, .ref a), (1, .int x1)], [], M) _
  refine ml_blk 3 (S' := (4, [(0, .ref a), (1, .int x1)], [.int (x1 + 6)], M)) rfl ?_
  refine ml_st (S' := (5, [(0, .ref a), (1, .int x1)], [.ref a, .int (x1 + 6)], M)) rfl rfl rfl ?_
  refine tg_ref (S' := (8, [(0, .ref a), (1, .int x1)], [.ref b, .int (x1 + 6)], M)) rfl hS.1 hY0 (by decide) rfl rfl ?_
  refine ml_blk 3 (S' := (11, [(0, .ref a), (1, .int x1)], [.int (x1 + 2), .ref b, .int (x1 + 6)], M)) rfl ?_
  refine ml_call (a := [.ref b, .int (x1 + 2)]) (rest := [.int (x1 + 6)]) rfl (okc_t rfl rfl rfl hS.1 hY2 (by decide)) rfl rfl (ct_u4 (hS.1.bytes hY2).1 (by omega)) (fun v1 M2 h3 => ?_)
  obtain ⟨rfl, h3⟩ := h3
  rw [h3]
  show ml _ _ _ (14, [(0, .ref a), (1, .int x1)], [.int (sp_u4 n (Y.2 da) (x1 + 2)), .int (x1 + 6)], M) _
  refine ml_st (S' := (15, [(0, .ref a), (1, .int x1)], [.int ((x1 + 6) + (sp_u4 n (Y.2 da) (x1 + 2)))], M)) rfl rfl rfl ?_
  exact ml_ret rfl (rfl) (⟨rfl, rfl⟩)
set_option maxHeartbeats 2000000 in
theorem tx_isNew {g : xe_G} {M : mi_H} {Y : yT} {a c b p vd da n : Nat} {pp : List Nat} {x1 x2 : Int32} {sn : Int32} (hW : WF g Y M) (hY0 : Y.1 a = some (0, [c, b, p, vd])) (hY1 : Y.1 c = some (3, [b, da, n])) (hY2 : Y.1 b = some (1, [da, n])) (hY3 : Y.1 p = some (7, pp)) (hY4 : Y.1 vd = some (10, [])) (hsn : mi_gf M a 0 4 = some (.int sn)) {d : Nat} (hd : 2 ≤ d) : mt (mT g) d 36 [.ref a, .int x1, .int x2] M (fun v M' => (∃ x : Int32, v = some (.int x) ∧ (x = 0 ∨ x = 1 ∧ ∃ s1, mi_gf M' a 0 4 = some (.int s1) ∧ (b2 sn → b2 s1) ∧ (x2 = 2 → ¬ b2 sn ∧ b2 s1))) ∧ sf g Y [a, vd] M M') := by
  obtain ⟨d, rfl⟩ : ∃ e, d = e + 1 := ⟨d - 1, by omega⟩
  have hS : sf g Y [a, vd] M M := sf.rf hW
  refine mt_in (b := mb_36 g) rfl rfl ?_
  show ml (mT g) d (mb_36 g).2 (0, [(0, .ref a), (1, .int x1), (2, .int x2)], [], M) _
  refine ml_st (S' := (1, [(0, .ref a), (1, .int x1), (2, .int x2)], [.ref a], M)) rfl rfl rfl ?_
  refine tg_ref (S' := (4, [(0, .ref a), (1, .int x1), (2, .int x2)], [.ref p], M)) rfl hS.1.1 hY0 (by decide) rfl rfl ?_
  refine ml_st (S' := (5, [(0, .ref a), (1, .int x1), (2, .int x2)], [.ref a, .ref p], M)) rfl rfl rfl ?_
  refine tg_ref (S' := (8, [(0, .ref a), (1, .int x1), (2, .int x2)], [.ref b, .ref p], M)) rfl hS.1.1 hY0 (by decide) rfl rfl ?_
  refine ml_st (S' := (9, [(0, .ref a), (1, .int x1), (2, .int x2)], [.int x1, .ref b, .ref p], M)) rfl rfl rfl ?_
  refine ml_call (a := [.ref b, .int x1]) (rest := [.ref p]) rfl (okc_t rfl rfl rfl hS.1.1 hY2 (by decide)) rfl rfl (tq_u2 hS.1.1 hY2 (by omega)) (fun v1 M2 h3 => ?_)
  obtain ⟨⟨u4, rfl⟩, h3⟩ := h3
  rw [h3]
  show ml _ _ _ (12, [(0, .ref a), (1, .int x1), (2, .int x2)], [.int u4, .ref p], M) _
  refine ml_call (a := [.ref p, .int u4]) (rest := []) rfl (okc_t rfl rfl rfl hS.1.1 hY3 (by decide)) rfl rfl (tq_tagOf hS.1.1 hY3 (by omega)) (fun v5 M6 h7 => ?_)
  obtain ⟨⟨u8, rfl⟩, h7⟩ := h7
  rw [h7]
  show ml _ _ _ (15, [(0, .ref a), (1, .int x1), (2, .int x2)], [.int u8], M) _
  refine ml_st (S' := (16, [(0, .ref a), (1, .int x1), (2, .int x2)], [.int 1, .int u8], M)) rfl rfl rfl ?_
  refine ml_if2 (S1 := (30, [(0, .ref a), (1, .int x1), (2, .int x2)], [], M)) (S2 := (19, [(0, .ref a), (1, .int x1), (2, .int x2)], [], M)) rfl rfl rfl (fun c_16 => ?_) (fun c_16 => ?_)
  · have c_16 : u8 = 1 := of_decide_eq_true c_16
    refine ml_st (S' := (31, [(0, .ref a), (1, .int x1), (2, .int x2)], [.int x2], M)) rfl rfl rfl ?_
    refine ml_if (S1 := (36, [(0, .ref a), (1, .int x1), (2, .int x2)], [], M)) (S2 := (34, [(0, .ref a), (1, .int x1), (2, .int x2)], [], M)) rfl rfl rfl (fun c_31 => ?_) (fun c_31 => ?_)
    · have c_31 : ¬ x2 = 0 := of_decide_eq_true c_31
      refine ml_blk 2 (S' := (38, [(0, .ref a), (1, .int x1), (2, .int x2)], [.int x2, .ref a], M)) rfl ?_
      refine ml_call (a := [.ref a, .int x2]) (rest := []) rfl (okc_t rfl rfl rfl hS.1.1 hY0 (by decide)) rfl rfl (tx_hasSeen hS.1.1 hY0 hY1 hY2 hY3 hY4 hsn (by omega)) (fun v9 M10 h11 => ?_)
      obtain ⟨⟨u12, rfl, z13⟩, h11⟩ := h11
      rw [h11]
      show ml _ _ _ (41, [(0, .ref a), (1, .int x1), (2, .int x2)], [.int u12], M) _
      refine ml_if (S1 := (55, [(0, .ref a), (1, .int x1), (2, .int x2)], [], M)) (S2 := (44, [(0, .ref a), (1, .int x1), (2, .int x2)], [], M)) rfl rfl rfl (fun c_41 => ?_) (fun c_41 => ?_)
      · have c_41 : u12 = 0 := of_decide_eq_true c_41
        refine ml_blk 2 (S' := (57, [(0, .ref a), (1, .int x1), (2, .int x2)], [.ref a, .ref a], M)) rfl ?_
        refine ml_get (S' := (60, [(0, .ref a), (1, .int x1), (2, .int x2)], [.int sn, .ref a], M)) rfl hsn rfl ?_
        refine ml_blk 3 (S' := (63, [(0, .ref a), (1, .int x1), (2, .int x2)], [.int (1 <<< (x2 &&& 31)), .int sn, .ref a], M)) rfl ?_
        refine ml_st (S' := (64, [(0, .ref a), (1, .int x1), (2, .int x2)], [.int (sn ||| (1 <<< (x2 &&& 31))), .ref a], M)) rfl rfl rfl ?_
        refine tp_put rfl hS.1 hY0 (by decide) rfl (⟨_, rfl⟩) rfl rfl (fun M14 hS15 f16 => ?_)
        have hS17 := hS.put hS15 f16 (by simp)
        show ml _ _ _ (67, [(0, .ref a), (1, .int x1), (2, .int x2)], [], M14) _
        refine ml_st (S' := (68, [(0, .ref a), (1, .int x1), (2, .int x2)], [.int 1], M14)) rfl rfl rfl ?_
        exact ml_ret rfl (r_z (Or.inr rfl)) (⟨⟨_, rfl, Or.inr ⟨rfl, _, f16.2.2.1, b2_or, fun e => ⟨fun q => q (by have hz := (z13.resolve_right (fun q => absurd (q.symm.trans c_41) (by decide))).2; rw [e] at hz; exact hz), b2_two e⟩⟩⟩, hS17⟩)
      · have c_41 : ¬ (u12 = 0) := of_decide_eq_false c_41
        refine ml_st (S' := (45, [(0, .ref a), (1, .int x1), (2, .int x2)], [.ref a], M)) rfl rfl rfl ?_
        refine tg_ref (S' := (48, [(0, .ref a), (1, .int x1), (2, .int x2)], [.ref vd], M)) rfl hS.1.1 hY0 (by decide) rfl rfl ?_
        refine ml_blk 2 (S' := (51, [(0, .ref a), (1, .int x1), (2, .int x2)], [.int x1, .int 29, .ref vd], M)) rfl ?_
        refine ml_call (a := [.ref vd, .int 29, .int x1]) (rest := []) rfl (okc_t rfl rfl rfl hS.1.1 hY4 (by decide)) rfl rfl (tw_Ve_wrong hS.1.1 hY4 (by omega)) (fun v18 M19 h20 => ?_)
        obtain ⟨rfl, h20⟩ := h20
        have g22 := h20.2.gf (nin_cons (ykne hY0 hY4 (by decide)) nin_nil) hsn
        have hS23 := hS.tr h20 (by simp)
        show ml _ _ _ (54, [(0, .ref a), (1, .int x1), (2, .int x2)], [.int 0], M19) _
        exact ml_ret rfl (r_z (Or.inl rfl)) (⟨⟨_, rfl, Or.inl rfl⟩, hS23⟩)
    · have c_31 : ¬ (¬ x2 = 0) := of_decide_eq_false c_31
      refine ml_st (S' := (35, [(0, .ref a), (1, .int x1), (2, .int x2)], [.int 1], M)) rfl rfl rfl ?_
      exact ml_ret rfl (r_z (Or.inr rfl)) (⟨⟨_, rfl, Or.inr ⟨rfl, _, hsn, id, fun e => absurd (e.symm.trans (Decidable.not_not.mp c_31)) (by decide)⟩⟩, hS⟩)
  · have c_16 : ¬ (u8 = 1) := of_decide_eq_false c_16
    refine ml_st (S' := (20, [(0, .ref a), (1, .int x1), (2, .int x2)], [.ref a], M)) rfl rfl rfl ?_
    refine tg_ref (S' := (23, [(0, .ref a), (1, .int x1), (2, .int x2)], [.ref vd], M)) rfl hS.1.1 hY0 (by decide) rfl rfl ?_
    refine ml_blk 2 (S' := (26, [(0, .ref a), (1, .int x1), (2, .int x2)], [.int x1, .int 28, .ref vd], M)) rfl ?_
    refine ml_call (a := [.ref vd, .int 28, .int x1]) (rest := []) rfl (okc_t rfl rfl rfl hS.1.1 hY4 (by decide)) rfl rfl (tw_Ve_wrong hS.1.1 hY4 (by omega)) (fun v24 M25 h26 => ?_)
    obtain ⟨rfl, h26⟩ := h26
    have g28 := h26.2.gf (nin_cons (ykne hY0 hY4 (by decide)) nin_nil) hsn
    have hS29 := hS.tr h26 (by simp)
    show ml _ _ _ (29, [(0, .ref a), (1, .int x1), (2, .int x2)], [.int 0], M25) _
    exact ml_ret rfl (r_z (Or.inl rfl)) (⟨⟨_, rfl, Or.inl rfl⟩, hS29⟩)
set_option maxHeartbeats 2000000 in
theorem tx_codeAttributesHold {g : xe_G} {M : mi_H} {Y : yT} {a c b p vd da n : Nat} {pp : List Nat} {x1 : Int32} {sn : Int32} (hW : WF g Y M) (hY0 : Y.1 a = some (0, [c, b, p, vd])) (hY1 : Y.1 c = some (3, [b, da, n])) (hY2 : Y.1 b = some (1, [da, n])) (hY3 : Y.1 p = some (7, pp)) (hY4 : Y.1 vd = some (10, [])) (hsn : mi_gf M a 0 4 = some (.int sn)) {d : Nat} (hd : 3 ≤ d) : mt (mT g) d 28 [.ref a, .int x1] M (fun v M' => (∃ x : Int32, v = some (.int x) ∧ (x = 0 ∨ x = 1 ∧ ∃ s1, mi_gf M' a 0 4 = some (.int s1) ∧ (b2 sn → b2 s1))) ∧ sf g Y [a, vd] M M') := by
  obtain ⟨d, rfl⟩ : ∃ e, d = e + 1 := ⟨d - 1, by omega⟩
  have hS : sf g Y [a, vd] M M := sf.rf hW
  refine mt_in (b := mb_28 g) rfl rfl ?_
  show ml (mT g) d (mb_28 g).2 (0, [(0, .ref a), (1, .int x1)], [], M) _
  refine ml_st (S' := (1, [(0, .ref a), (1, .int x1)], [.ref a], M)) rfl rfl rfl ?_
  refine tg_ref (S' := (4, [(0, .ref a), (1, .int x1)], [.ref b], M)) rfl hS.1.1 hY0 (by decide) rfl rfl ?_
  refine ml_st (S' := (5, [(0, .ref a), (1, .int x1)], [.int x1, .ref b], M)) rfl rfl rfl ?_
  refine ml_call (a := [.ref b, .int x1]) (rest := []) rfl (okc_t rfl rfl rfl hS.1.1 hY2 (by decide)) rfl rfl (tq_u2 hS.1.1 hY2 (by omega)) (fun v1 M2 h3 => ?_)
  obtain ⟨⟨u4, rfl⟩, h3⟩ := h3
  rw [h3]
  show ml _ _ _ (8, [(0, .ref a), (1, .int x1)], [.int u4], M) _
  refine ml_st (S' := (9, [(2, .int u4), (0, .ref a), (1, .int x1)], [], M)) rfl rfl rfl ?_
  refine ml_blk 3 (S' := (12, [(2, .int u4), (0, .ref a), (1, .int x1)], [.int (x1 + 2)], M)) rfl ?_
  refine ml_st (S' := (13, [(3, .int (x1 + 2)), (2, .int u4), (0, .ref a), (1, .int x1)], [], M)) rfl rfl rfl ?_
  refine ml_st (S' := (14, [(3, .int (x1 + 2)), (2, .int u4), (0, .ref a), (1, .int x1)], [.int 0], M)) rfl rfl rfl ?_
  refine ml_st (S' := (16, [(0, .ref a), (2, .int u4), (3, .int (x1 + 2)), (4, .int 0)], [], M)) rfl rfl rfl ?_
  have L_16 : ∀ (n_16 : Nat) (i16_3 : Int32) (i16_4 : Int32) (sq : Int32) (M_16 : mi_H), (2147483648 - i16_4.toInt).toNat ≤ n_16 → (mi_gf M_16 a 0 4 = some (.int sq) ∧ (b2 sn → b2 sq)) → sf g Y [a, vd] M M_16 → ml (mT g) d (mb_28 g).2 (16, [(0, .ref a), (2, .int u4), (3, .int i16_3), (4, .int i16_4)], [], M_16) (fun v M' => (∃ x : Int32, v = some (.int x) ∧ (x = 0 ∨ x = 1 ∧ ∃ s1, mi_gf M' a 0 4 = some (.int s1) ∧ (b2 sn → b2 s1))) ∧ sf g Y [a, vd] M M') := by
    intro n_16
    induction n_16 with
    | zero => intro i16_3 i16_4 sq M_16 hn; exact (loop_zero hn).elim
    | succ n_16 ih_16 =>
      intro i16_3 i16_4 sq M_16 hn_16 hi_16 hS_16
      refine ml_blk 2 (S' := (19, [(0, .ref a), (2, .int u4), (3, .int i16_3), (4, .int i16_4)], [.int u4, .int i16_4], M_16)) rfl ?_
      refine ml_if2 (S1 := (93, [(0, .ref a), (2, .int u4), (3, .int i16_3), (4, .int i16_4)], [], M_16)) (S2 := (22, [(0, .ref a), (2, .int u4), (3, .int i16_3), (4, .int i16_4)], [], M_16)) rfl rfl rfl (fun c_19 => ?_) (fun c_19 => ?_)
      · have c_19 : u4 ≤ i16_4 := of_decide_eq_true c_19
        refine ml_st (S' := (94, [(0, .ref a), (2, .int u4), (3, .int i16_3), (4, .int i16_4)], [.int 1], M_16)) rfl rfl rfl ?_
        exact ml_ret rfl (r_z (Or.inr rfl)) (⟨⟨_, rfl, Or.inr ⟨rfl, _, hi_16.1, hi_16.2⟩⟩, hS_16⟩)
      · have c_19 : ¬ (u4 ≤ i16_4) := of_decide_eq_false c_19
        refine ml_st (S' := (23, [(0, .ref a), (2, .int u4), (3, .int i16_3), (4, .int i16_4)], [.ref a], M_16)) rfl rfl rfl ?_
        refine tg_ref (S' := (26, [(0, .ref a), (2, .int u4), (3, .int i16_3), (4, .int i16_4)], [.ref c], M_16)) rfl hS_16.1.1 hY0 (by decide) rfl rfl ?_
        refine tg_int rfl hS_16.1.1 hY1 (by decide) rfl (fun u5 g6 => ?_)
        show ml _ _ _ (29, [(0, .ref a), (2, .int u4), (3, .int i16_3), (4, .int i16_4)], [.int u5], M_16) _
        refine ml_st (S' := (31, [(0, .ref a), (2, .int u4), (3, .int i16_3), (4, .int i16_4)], [.int 50, .int u5], M_16)) rfl rfl rfl ?_
        have J_59 : ∀ (s59_0 : Int32), ml (mT g) d (mb_28 g).2 (59, [(0, .ref a), (2, .int u4), (3, .int i16_3), (4, .int i16_4)], [.int s59_0], M_16) (fun v M' => (∃ x : Int32, v = some (.int x) ∧ (x = 0 ∨ x = 1 ∧ ∃ s1, mi_gf M' a 0 4 = some (.int s1) ∧ (b2 sn → b2 s1))) ∧ sf g Y [a, vd] M M') := by
          intro s59_0
          refine ml_st (S' := (61, [(5, .int s59_0), (0, .ref a), (2, .int u4), (3, .int i16_3), (4, .int i16_4)], [], M_16)) rfl rfl rfl ?_
          refine ml_blk 3 (S' := (65, [(5, .int s59_0), (0, .ref a), (2, .int u4), (3, .int i16_3), (4, .int i16_4)], [.int s59_0, .int i16_3, .ref a], M_16)) rfl ?_
          refine ml_if (S1 := (72, [(5, .int s59_0), (0, .ref a), (2, .int u4), (3, .int i16_3), (4, .int i16_4)], [.int i16_3, .ref a], M_16)) (S2 := (68, [(5, .int s59_0), (0, .ref a), (2, .int u4), (3, .int i16_3), (4, .int i16_4)], [.int i16_3, .ref a], M_16)) rfl rfl rfl (fun c_65 => ?_) (fun c_65 => ?_)
          · have c_65 : s59_0 = 0 := of_decide_eq_true c_65
            refine ml_st (S' := (73, [(0, .ref a), (2, .int u4), (3, .int i16_3), (4, .int i16_4)], [.int 0, .int i16_3, .ref a], M_16)) rfl rfl rfl ?_
            refine ml_call (a := [.ref a, .int i16_3, .int 0]) (rest := []) rfl (okc_t rfl rfl rfl hS_16.1.1 hY0 (by decide)) rfl rfl (tx_isNew hS_16.1.1 hY0 hY1 hY2 hY3 hY4 hi_16.1 (by omega)) (fun v7 M8 h9 => ?_)
            obtain ⟨⟨u10, rfl, z11⟩, h9⟩ := h9
            have hS12 := hS_16.tr h9 (by simp)
            show ml _ _ _ (76, [(0, .ref a), (2, .int u4), (3, .int i16_3), (4, .int i16_4)], [.int u10], M8) _
            refine ml_if (S1 := (81, [(0, .ref a), (2, .int u4), (3, .int i16_3), (4, .int i16_4)], [], M8)) (S2 := (79, [(0, .ref a), (2, .int u4), (3, .int i16_3), (4, .int i16_4)], [], M8)) rfl rfl rfl (fun c_76 => ?_) (fun c_76 => ?_)
            · have c_76 : ¬ u10 = 0 := of_decide_eq_true c_76
              obtain ⟨-, s13, h14, h15, -⟩ := z11.resolve_left c_76
              refine ml_blk 2 (S' := (83, [(0, .ref a), (2, .int u4), (3, .int i16_3), (4, .int i16_4)], [.int i16_3, .ref a], M8)) rfl ?_
              refine ml_call (a := [.ref a, .int i16_3]) (rest := []) rfl (okc_t rfl rfl rfl hS12.1.1 hY0 (by decide)) rfl rfl (tx_behind hS12.1.1 hY0 hY1 hY2 hY3 hY4 (by omega)) (fun v16 M17 h18 => ?_)
              obtain ⟨rfl, h18⟩ := h18
              rw [h18]
              show ml _ _ _ (86, [(0, .ref a), (2, .int u4), (3, .int i16_3), (4, .int i16_4)], [.int ((i16_3 + 6) + (sp_u4 n (Y.2 da) (i16_3 + 2)))], M8) _
              refine ml_st (S' := (87, [(3, .int ((i16_3 + 6) + (sp_u4 n (Y.2 da) (i16_3 + 2)))), (0, .ref a), (2, .int u4), (4, .int i16_4)], [], M8)) rfl rfl rfl ?_
              refine ml_st (S' := (90, [(4, .int (i16_4 + 1)), (3, .int ((i16_3 + 6) + (sp_u4 n (Y.2 da) (i16_3 + 2)))), (0, .ref a), (2, .int u4)], [], M8)) rfl rfl rfl ?_
              refine ml_st (S' := (16, [(0, .ref a), (2, .int u4), (3, .int ((i16_3 + 6) + (sp_u4 n (Y.2 da) (i16_3 + 2)))), (4, .int (i16_4 + 1))], [], M8)) rfl rfl rfl ?_
              exact ih_16 ((i16_3 + 6) + (sp_u4 n (Y.2 da) (i16_3 + 2))) (i16_4 + 1) s13 _ (loop_inc (Int32.not_le.mp c_19) hn_16) (⟨h14, fun q => h15 (hi_16.2 q)⟩) hS12
            · have c_76 : ¬ (¬ u10 = 0) := of_decide_eq_false c_76
              refine ml_st (S' := (80, [(0, .ref a), (2, .int u4), (3, .int i16_3), (4, .int i16_4)], [.int 0], M8)) rfl rfl rfl ?_
              exact ml_ret rfl (r_z (Or.inl rfl)) (⟨⟨_, rfl, Or.inl rfl⟩, hS12⟩)
          · have c_65 : ¬ (s59_0 = 0) := of_decide_eq_false c_65
            refine ml_st (S' := (69, [(5, .int s59_0), (0, .ref a), (2, .int u4), (3, .int i16_3), (4, .int i16_4)], [.int 4, .int i16_3, .ref a], M_16)) rfl rfl rfl ?_
            refine ml_st (S' := (73, [(0, .ref a), (2, .int u4), (3, .int i16_3), (4, .int i16_4)], [.int 4, .int i16_3, .ref a], M_16)) rfl rfl rfl ?_
            refine ml_call (a := [.ref a, .int i16_3, .int 4]) (rest := []) rfl (okc_t rfl rfl rfl hS_16.1.1 hY0 (by decide)) rfl rfl (tx_isNew hS_16.1.1 hY0 hY1 hY2 hY3 hY4 hi_16.1 (by omega)) (fun v20 M21 h22 => ?_)
            obtain ⟨⟨u23, rfl, z24⟩, h22⟩ := h22
            have hS25 := hS_16.tr h22 (by simp)
            show ml _ _ _ (76, [(0, .ref a), (2, .int u4), (3, .int i16_3), (4, .int i16_4)], [.int u23], M21) _
            refine ml_if (S1 := (81, [(0, .ref a), (2, .int u4), (3, .int i16_3), (4, .int i16_4)], [], M21)) (S2 := (79, [(0, .ref a), (2, .int u4), (3, .int i16_3), (4, .int i16_4)], [], M21)) rfl rfl rfl (fun c_76 => ?_) (fun c_76 => ?_)
            · have c_76 : ¬ u23 = 0 := of_decide_eq_true c_76
              obtain ⟨-, s26, h27, h28, -⟩ := z24.resolve_left c_76
              refine ml_blk 2 (S' := (83, [(0, .ref a), (2, .int u4), (3, .int i16_3), (4, .int i16_4)], [.int i16_3, .ref a], M21)) rfl ?_
              refine ml_call (a := [.ref a, .int i16_3]) (rest := []) rfl (okc_t rfl rfl rfl hS25.1.1 hY0 (by decide)) rfl rfl (tx_behind hS25.1.1 hY0 hY1 hY2 hY3 hY4 (by omega)) (fun v29 M30 h31 => ?_)
              obtain ⟨rfl, h31⟩ := h31
              rw [h31]
              show ml _ _ _ (86, [(0, .ref a), (2, .int u4), (3, .int i16_3), (4, .int i16_4)], [.int ((i16_3 + 6) + (sp_u4 n (Y.2 da) (i16_3 + 2)))], M21) _
              refine ml_st (S' := (87, [(3, .int ((i16_3 + 6) + (sp_u4 n (Y.2 da) (i16_3 + 2)))), (0, .ref a), (2, .int u4), (4, .int i16_4)], [], M21)) rfl rfl rfl ?_
              refine ml_st (S' := (90, [(4, .int (i16_4 + 1)), (3, .int ((i16_3 + 6) + (sp_u4 n (Y.2 da) (i16_3 + 2)))), (0, .ref a), (2, .int u4)], [], M21)) rfl rfl rfl ?_
              refine ml_st (S' := (16, [(0, .ref a), (2, .int u4), (3, .int ((i16_3 + 6) + (sp_u4 n (Y.2 da) (i16_3 + 2)))), (4, .int (i16_4 + 1))], [], M21)) rfl rfl rfl ?_
              exact ih_16 ((i16_3 + 6) + (sp_u4 n (Y.2 da) (i16_3 + 2))) (i16_4 + 1) s26 _ (loop_inc (Int32.not_le.mp c_19) hn_16) (⟨h27, fun q => h28 (hi_16.2 q)⟩) hS25
            · have c_76 : ¬ (¬ u23 = 0) := of_decide_eq_false c_76
              refine ml_st (S' := (80, [(0, .ref a), (2, .int u4), (3, .int i16_3), (4, .int i16_4)], [.int 0], M21)) rfl rfl rfl ?_
              exact ml_ret rfl (r_z (Or.inl rfl)) (⟨⟨_, rfl, Or.inl rfl⟩, hS25⟩)
        have J_58 : ml (mT g) d (mb_28 g).2 (58, [(0, .ref a), (2, .int u4), (3, .int i16_3), (4, .int i16_4)], [], M_16) (fun v M' => (∃ x : Int32, v = some (.int x) ∧ (x = 0 ∨ x = 1 ∧ ∃ s1, mi_gf M' a 0 4 = some (.int s1) ∧ (b2 sn → b2 s1))) ∧ sf g Y [a, vd] M M') := by
          refine ml_st (S' := (59, [(0, .ref a), (2, .int u4), (3, .int i16_3), (4, .int i16_4)], [.int 0], M_16)) rfl rfl rfl ?_
          exact J_59 0
        refine ml_if2 (S1 := (58, [(0, .ref a), (2, .int u4), (3, .int i16_3), (4, .int i16_4)], [], M_16)) (S2 := (34, [(0, .ref a), (2, .int u4), (3, .int i16_3), (4, .int i16_4)], [], M_16)) rfl rfl rfl (fun c_31 => ?_) (fun c_31 => ?_)
        · have c_31 : u5 < 50 := of_decide_eq_true c_31
          exact J_58 
        · have c_31 : ¬ (u5 < 50) := of_decide_eq_false c_31
          refine ml_st (S' := (35, [(0, .ref a), (2, .int u4), (3, .int i16_3), (4, .int i16_4)], [.ref a], M_16)) rfl rfl rfl ?_
          refine tg_ref (S' := (38, [(0, .ref a), (2, .int u4), (3, .int i16_3), (4, .int i16_4)], [.ref p], M_16)) rfl hS_16.1.1 hY0 (by decide) rfl rfl ?_
          refine ml_st (S' := (39, [(0, .ref a), (2, .int u4), (3, .int i16_3), (4, .int i16_4)], [.ref a, .ref p], M_16)) rfl rfl rfl ?_
          refine tg_ref (S' := (42, [(0, .ref a), (2, .int u4), (3, .int i16_3), (4, .int i16_4)], [.ref b, .ref p], M_16)) rfl hS_16.1.1 hY0 (by decide) rfl rfl ?_
          refine ml_st (S' := (43, [(0, .ref a), (2, .int u4), (3, .int i16_3), (4, .int i16_4)], [.int i16_3, .ref b, .ref p], M_16)) rfl rfl rfl ?_
          refine ml_call (a := [.ref b, .int i16_3]) (rest := [.ref p]) rfl (okc_t rfl rfl rfl hS_16.1.1 hY2 (by decide)) rfl rfl (tq_u2 hS_16.1.1 hY2 (by omega)) (fun v33 M34 h35 => ?_)
          obtain ⟨⟨u36, rfl⟩, h35⟩ := h35
          rw [h35]
          show ml _ _ _ (46, [(0, .ref a), (2, .int u4), (3, .int i16_3), (4, .int i16_4)], [.int u36, .ref p], M_16) _
          refine ml_st (S' := (48, [(0, .ref a), (2, .int u4), (3, .int i16_3), (4, .int i16_4)], [.ref (g.2.1 10), .int u36, .ref p], M_16)) rfl rfl rfl ?_
          refine ml_call (a := [.ref p, .int u36, .ref (g.2.1 10)]) (rest := []) rfl (okc_t rfl rfl rfl hS_16.1.1 hY3 (by decide)) rfl rfl (tq_textIs (lk := 10) hS_16.1.1 hY3 (by decide) (by omega)) (fun v37 M38 h39 => ?_)
          obtain ⟨⟨x40, rfl, z41⟩, h39⟩ := h39
          rw [h39]
          show ml _ _ _ (51, [(0, .ref a), (2, .int u4), (3, .int i16_3), (4, .int i16_4)], [.int x40], M_16) _
          refine ml_if (S1 := (58, [(0, .ref a), (2, .int u4), (3, .int i16_3), (4, .int i16_4)], [], M_16)) (S2 := (54, [(0, .ref a), (2, .int u4), (3, .int i16_3), (4, .int i16_4)], [], M_16)) rfl rfl rfl (fun c_51 => ?_) (fun c_51 => ?_)
          · have c_51 : x40 = 0 := of_decide_eq_true c_51
            exact J_58 
          · have c_51 : ¬ (x40 = 0) := of_decide_eq_false c_51
            refine ml_st (S' := (55, [(0, .ref a), (2, .int u4), (3, .int i16_3), (4, .int i16_4)], [.int 1], M_16)) rfl rfl rfl ?_
            refine ml_st (S' := (59, [(0, .ref a), (2, .int u4), (3, .int i16_3), (4, .int i16_4)], [.int 1], M_16)) rfl rfl rfl ?_
            exact J_59 1
  exact L_16 _ (x1 + 2) 0 sn _ (Nat.le_refl _) (⟨hsn, id⟩) hS
set_option maxHeartbeats 2000000 in
theorem tx_codeEnd {g : xe_G} {M : mi_H} {Y : yT} {a c b p vd da n : Nat} {pp : List Nat} {x1 x2 : Int32}  (hW : WF g Y M) (hY0 : Y.1 a = some (0, [c, b, p, vd])) (hY1 : Y.1 c = some (3, [b, da, n])) (hY2 : Y.1 b = some (1, [da, n])) (hY3 : Y.1 p = some (7, pp)) (hY4 : Y.1 vd = some (10, [])) {d : Nat} (hd : 3 ≤ d) : mt (mT g) d 29 [.ref a, .int x1, .int x2] M (fun v M' => (∃ x : Int32, v = some (.int x) ∧ (x = -1 ∨ 0 ≤ (sp_u4 n (Y.2 da) (x1 + 4)).toInt ∧ (sp_u4 n (Y.2 da) (x1 + 4)) ≤ x2 - x1 - 8)) ∧ M' = M) := by
  obtain ⟨d, rfl⟩ : ∃ e, d = e + 1 := ⟨d - 1, by omega⟩
  have hS : st g Y M M := st.rf hW
  refine mt_in (b := mb_29 g) rfl rfl ?_
  show ml (mT g) d (mb_29 g).2 (0, [(0, .ref a), (1, .int x1), (2, .int x2)], [], M) _
  refine ml_blk 3 (S' := (3, [(0, .ref a), (1, .int x1), (2, .int x2)], [.int (x2 - x1)], M)) rfl ?_
  refine ml_st (S' := (5, [(0, .ref a), (1, .int x1), (2, .int x2)], [.int 8, .int (x2 - x1)], M)) rfl rfl rfl ?_
  refine ml_if2 (S1 := (10, [(0, .ref a), (1, .int x1), (2, .int x2)], [], M)) (S2 := (8, [(0, .ref a), (1, .int x1), (2, .int x2)], [], M)) rfl rfl rfl (fun c_5 => ?_) (fun c_5 => ?_)
  · have c_5 : 8 ≤ (x2 - x1) := of_decide_eq_true c_5
    refine ml_st (S' := (11, [(0, .ref a), (1, .int x1), (2, .int x2)], [.ref a], M)) rfl rfl rfl ?_
    refine tg_ref (S' := (14, [(0, .ref a), (1, .int x1), (2, .int x2)], [.ref b], M)) rfl hS.1 hY0 (by decide) rfl rfl ?_
    refine ml_blk 3 (S' := (17, [(0, .ref a), (1, .int x1), (2, .int x2)], [.int (x1 + 4), .ref b], M)) rfl ?_
    refine ml_call (a := [.ref b, .int (x1 + 4)]) (rest := []) rfl (okc_t rfl rfl rfl hS.1 hY2 (by decide)) rfl rfl (ct_u4 (hS.1.bytes hY2).1 (by omega)) (fun v1 M2 h3 => ?_)
    obtain ⟨rfl, h3⟩ := h3
    rw [h3]
    show ml _ _ _ (20, [(0, .ref a), (1, .int x1), (2, .int x2)], [.int (sp_u4 n (Y.2 da) (x1 + 4))], M) _
    refine ml_st (S' := (21, [(3, .int (sp_u4 n (Y.2 da) (x1 + 4))), (0, .ref a), (1, .int x1), (2, .int x2)], [], M)) rfl rfl rfl ?_
    refine ml_st (S' := (22, [(3, .int (sp_u4 n (Y.2 da) (x1 + 4))), (0, .ref a), (1, .int x1), (2, .int x2)], [.int (sp_u4 n (Y.2 da) (x1 + 4))], M)) rfl rfl rfl ?_
    refine ml_if (S1 := (35, [], [], M)) (S2 := (25, [(3, .int (sp_u4 n (Y.2 da) (x1 + 4))), (0, .ref a), (1, .int x1), (2, .int x2)], [], M)) rfl rfl rfl (fun c_22 => ?_) (fun c_22 => ?_)
    · have c_22 : (sp_u4 n (Y.2 da) (x1 + 4)) < 0 := of_decide_eq_true c_22
      refine ml_st (S' := (36, [], [.int (-1)], M)) rfl rfl rfl ?_
      exact ml_ret rfl (rfl) (⟨⟨_, rfl, Or.inl rfl⟩, rfl⟩)
    · have c_22 : ¬ ((sp_u4 n (Y.2 da) (x1 + 4)) < 0) := of_decide_eq_false c_22
      refine ml_blk 3 (S' := (28, [(3, .int (sp_u4 n (Y.2 da) (x1 + 4))), (0, .ref a), (1, .int x1), (2, .int x2)], [.int x1, .int x2, .int (sp_u4 n (Y.2 da) (x1 + 4))], M)) rfl ?_
      refine ml_blk 3 (S' := (32, [(3, .int (sp_u4 n (Y.2 da) (x1 + 4))), (0, .ref a), (1, .int x1), (2, .int x2)], [.int ((x2 - x1) - 8), .int (sp_u4 n (Y.2 da) (x1 + 4))], M)) rfl ?_
      refine ml_if2 (S1 := (37, [(3, .int (sp_u4 n (Y.2 da) (x1 + 4))), (0, .ref a), (1, .int x1), (2, .int x2)], [], M)) (S2 := (35, [], [], M)) rfl rfl rfl (fun c_32 => ?_) (fun c_32 => ?_)
      · have c_32 : (sp_u4 n (Y.2 da) (x1 + 4)) ≤ ((x2 - x1) - 8) := of_decide_eq_true c_32
        refine ml_blk 3 (S' := (41, [(3, .int (sp_u4 n (Y.2 da) (x1 + 4))), (0, .ref a), (1, .int x1), (2, .int x2)], [.int (x1 + 8)], M)) rfl ?_
        refine ml_blk 2 (S' := (43, [(3, .int (sp_u4 n (Y.2 da) (x1 + 4))), (0, .ref a), (1, .int x1), (2, .int x2)], [.int ((x1 + 8) + (sp_u4 n (Y.2 da) (x1 + 4)))], M)) rfl ?_
        refine ml_st (S' := (45, [(4, .int ((x1 + 8) + (sp_u4 n (Y.2 da) (x1 + 4)))), (3, .int (sp_u4 n (Y.2 da) (x1 + 4))), (0, .ref a), (1, .int x1), (2, .int x2)], [], M)) rfl rfl rfl ?_
        refine ml_blk 3 (S' := (49, [(4, .int ((x1 + 8) + (sp_u4 n (Y.2 da) (x1 + 4)))), (3, .int (sp_u4 n (Y.2 da) (x1 + 4))), (0, .ref a), (1, .int x1), (2, .int x2)], [.int (x2 - ((x1 + 8) + (sp_u4 n (Y.2 da) (x1 + 4))))], M)) rfl ?_
        refine ml_st (S' := (50, [(4, .int ((x1 + 8) + (sp_u4 n (Y.2 da) (x1 + 4)))), (3, .int (sp_u4 n (Y.2 da) (x1 + 4))), (0, .ref a), (1, .int x1), (2, .int x2)], [.int 2, .int (x2 - ((x1 + 8) + (sp_u4 n (Y.2 da) (x1 + 4))))], M)) rfl rfl rfl ?_
        refine ml_if2 (S1 := (74, [], [], M)) (S2 := (53, [(4, .int ((x1 + 8) + (sp_u4 n (Y.2 da) (x1 + 4)))), (3, .int (sp_u4 n (Y.2 da) (x1 + 4))), (0, .ref a), (1, .int x1), (2, .int x2)], [], M)) rfl rfl rfl (fun c_50 => ?_) (fun c_50 => ?_)
        · have c_50 : (x2 - ((x1 + 8) + (sp_u4 n (Y.2 da) (x1 + 4)))) < 2 := of_decide_eq_true c_50
          refine ml_st (S' := (75, [], [.int (-1)], M)) rfl rfl rfl ?_
          exact ml_ret rfl (rfl) (⟨⟨_, rfl, Or.inl rfl⟩, rfl⟩)
        · have c_50 : ¬ ((x2 - ((x1 + 8) + (sp_u4 n (Y.2 da) (x1 + 4)))) < 2) := of_decide_eq_false c_50
          refine ml_blk 3 (S' := (57, [(4, .int ((x1 + 8) + (sp_u4 n (Y.2 da) (x1 + 4)))), (3, .int (sp_u4 n (Y.2 da) (x1 + 4))), (0, .ref a), (1, .int x1), (2, .int x2)], [.int (x2 - ((x1 + 8) + (sp_u4 n (Y.2 da) (x1 + 4))))], M)) rfl ?_
          refine ml_blk 3 (S' := (61, [(4, .int ((x1 + 8) + (sp_u4 n (Y.2 da) (x1 + 4)))), (3, .int (sp_u4 n (Y.2 da) (x1 + 4))), (0, .ref a), (1, .int x1), (2, .int x2)], [.int 8, .int ((x2 - ((x1 + 8) + (sp_u4 n (Y.2 da) (x1 + 4)))) - 2)], M)) rfl ?_
          refine ml_st (S' := (62, [(4, .int ((x1 + 8) + (sp_u4 n (Y.2 da) (x1 + 4)))), (3, .int (sp_u4 n (Y.2 da) (x1 + 4))), (0, .ref a), (1, .int x1), (2, .int x2)], [.ref a, .int 8, .int ((x2 - ((x1 + 8) + (sp_u4 n (Y.2 da) (x1 + 4)))) - 2)], M)) rfl rfl rfl ?_
          refine tg_ref (S' := (65, [(4, .int ((x1 + 8) + (sp_u4 n (Y.2 da) (x1 + 4)))), (3, .int (sp_u4 n (Y.2 da) (x1 + 4))), (0, .ref a), (1, .int x1), (2, .int x2)], [.ref b, .int 8, .int ((x2 - ((x1 + 8) + (sp_u4 n (Y.2 da) (x1 + 4)))) - 2)], M)) rfl hS.1 hY0 (by decide) rfl rfl ?_
          refine ml_st (S' := (67, [(4, .int ((x1 + 8) + (sp_u4 n (Y.2 da) (x1 + 4)))), (3, .int (sp_u4 n (Y.2 da) (x1 + 4))), (0, .ref a), (1, .int x1), (2, .int x2)], [.int ((x1 + 8) + (sp_u4 n (Y.2 da) (x1 + 4))), .ref b, .int 8, .int ((x2 - ((x1 + 8) + (sp_u4 n (Y.2 da) (x1 + 4)))) - 2)], M)) rfl rfl rfl ?_
          refine ml_call (a := [.ref b, .int ((x1 + 8) + (sp_u4 n (Y.2 da) (x1 + 4)))]) (rest := [.int 8, .int ((x2 - ((x1 + 8) + (sp_u4 n (Y.2 da) (x1 + 4)))) - 2)]) rfl (okc_t rfl rfl rfl hS.1 hY2 (by decide)) rfl rfl (tq_u2 hS.1 hY2 (by omega)) (fun v4 M5 h6 => ?_)
          obtain ⟨⟨u7, rfl⟩, h6⟩ := h6
          rw [h6]
          show ml _ _ _ (70, [(4, .int ((x1 + 8) + (sp_u4 n (Y.2 da) (x1 + 4)))), (3, .int (sp_u4 n (Y.2 da) (x1 + 4))), (0, .ref a), (1, .int x1), (2, .int x2)], [.int u7, .int 8, .int ((x2 - ((x1 + 8) + (sp_u4 n (Y.2 da) (x1 + 4)))) - 2)], M) _
          refine ml_st (S' := (71, [(4, .int ((x1 + 8) + (sp_u4 n (Y.2 da) (x1 + 4)))), (3, .int (sp_u4 n (Y.2 da) (x1 + 4))), (0, .ref a), (1, .int x1), (2, .int x2)], [.int (8 * u7), .int ((x2 - ((x1 + 8) + (sp_u4 n (Y.2 da) (x1 + 4)))) - 2)], M)) rfl rfl rfl ?_
          refine ml_if2 (S1 := (76, [(4, .int ((x1 + 8) + (sp_u4 n (Y.2 da) (x1 + 4)))), (3, .int (sp_u4 n (Y.2 da) (x1 + 4))), (0, .ref a), (1, .int x1), (2, .int x2)], [], M)) (S2 := (74, [], [], M)) rfl rfl rfl (fun c_71 => ?_) (fun c_71 => ?_)
          · have c_71 : (8 * u7) ≤ ((x2 - ((x1 + 8) + (sp_u4 n (Y.2 da) (x1 + 4)))) - 2) := of_decide_eq_true c_71
            refine ml_blk 3 (S' := (80, [(4, .int ((x1 + 8) + (sp_u4 n (Y.2 da) (x1 + 4)))), (3, .int (sp_u4 n (Y.2 da) (x1 + 4))), (0, .ref a), (1, .int x1), (2, .int x2)], [.int (((x1 + 8) + (sp_u4 n (Y.2 da) (x1 + 4))) + 2)], M)) rfl ?_
            refine ml_blk 2 (S' := (83, [(4, .int ((x1 + 8) + (sp_u4 n (Y.2 da) (x1 + 4)))), (3, .int (sp_u4 n (Y.2 da) (x1 + 4))), (0, .ref a), (1, .int x1), (2, .int x2)], [.ref a, .int 8, .int (((x1 + 8) + (sp_u4 n (Y.2 da) (x1 + 4))) + 2)], M)) rfl ?_
            refine tg_ref (S' := (86, [(4, .int ((x1 + 8) + (sp_u4 n (Y.2 da) (x1 + 4)))), (3, .int (sp_u4 n (Y.2 da) (x1 + 4))), (0, .ref a), (1, .int x1), (2, .int x2)], [.ref b, .int 8, .int (((x1 + 8) + (sp_u4 n (Y.2 da) (x1 + 4))) + 2)], M)) rfl hS.1 hY0 (by decide) rfl rfl ?_
            refine ml_st (S' := (88, [(4, .int ((x1 + 8) + (sp_u4 n (Y.2 da) (x1 + 4)))), (3, .int (sp_u4 n (Y.2 da) (x1 + 4))), (0, .ref a), (1, .int x1), (2, .int x2)], [.int ((x1 + 8) + (sp_u4 n (Y.2 da) (x1 + 4))), .ref b, .int 8, .int (((x1 + 8) + (sp_u4 n (Y.2 da) (x1 + 4))) + 2)], M)) rfl rfl rfl ?_
            refine ml_call (a := [.ref b, .int ((x1 + 8) + (sp_u4 n (Y.2 da) (x1 + 4)))]) (rest := [.int 8, .int (((x1 + 8) + (sp_u4 n (Y.2 da) (x1 + 4))) + 2)]) rfl (okc_t rfl rfl rfl hS.1 hY2 (by decide)) rfl rfl (tq_u2 hS.1 hY2 (by omega)) (fun v8 M9 h10 => ?_)
            obtain ⟨⟨u11, rfl⟩, h10⟩ := h10
            rw [h10]
            show ml _ _ _ (91, [(4, .int ((x1 + 8) + (sp_u4 n (Y.2 da) (x1 + 4)))), (3, .int (sp_u4 n (Y.2 da) (x1 + 4))), (0, .ref a), (1, .int x1), (2, .int x2)], [.int u11, .int 8, .int (((x1 + 8) + (sp_u4 n (Y.2 da) (x1 + 4))) + 2)], M) _
            refine ml_blk 2 (S' := (93, [(4, .int ((x1 + 8) + (sp_u4 n (Y.2 da) (x1 + 4)))), (3, .int (sp_u4 n (Y.2 da) (x1 + 4))), (0, .ref a), (1, .int x1), (2, .int x2)], [.int ((((x1 + 8) + (sp_u4 n (Y.2 da) (x1 + 4))) + 2) + (8 * u11))], M)) rfl ?_
            refine ml_st (S' := (95, [(5, .int ((((x1 + 8) + (sp_u4 n (Y.2 da) (x1 + 4))) + 2) + (8 * u11))), (4, .int ((x1 + 8) + (sp_u4 n (Y.2 da) (x1 + 4)))), (3, .int (sp_u4 n (Y.2 da) (x1 + 4))), (0, .ref a), (1, .int x1), (2, .int x2)], [], M)) rfl rfl rfl ?_
            refine ml_blk 3 (S' := (99, [(5, .int ((((x1 + 8) + (sp_u4 n (Y.2 da) (x1 + 4))) + 2) + (8 * u11))), (4, .int ((x1 + 8) + (sp_u4 n (Y.2 da) (x1 + 4)))), (3, .int (sp_u4 n (Y.2 da) (x1 + 4))), (0, .ref a), (1, .int x1), (2, .int x2)], [.int (x2 - ((((x1 + 8) + (sp_u4 n (Y.2 da) (x1 + 4))) + 2) + (8 * u11)))], M)) rfl ?_
            refine ml_st (S' := (100, [(5, .int ((((x1 + 8) + (sp_u4 n (Y.2 da) (x1 + 4))) + 2) + (8 * u11))), (4, .int ((x1 + 8) + (sp_u4 n (Y.2 da) (x1 + 4)))), (3, .int (sp_u4 n (Y.2 da) (x1 + 4))), (0, .ref a), (1, .int x1), (2, .int x2)], [.int 2, .int (x2 - ((((x1 + 8) + (sp_u4 n (Y.2 da) (x1 + 4))) + 2) + (8 * u11)))], M)) rfl rfl rfl ?_
            refine ml_if2 (S1 := (105, [(5, .int ((((x1 + 8) + (sp_u4 n (Y.2 da) (x1 + 4))) + 2) + (8 * u11))), (4, .int ((x1 + 8) + (sp_u4 n (Y.2 da) (x1 + 4)))), (3, .int (sp_u4 n (Y.2 da) (x1 + 4))), (0, .ref a), (1, .int x1), (2, .int x2)], [], M)) (S2 := (103, [(5, .int ((((x1 + 8) + (sp_u4 n (Y.2 da) (x1 + 4))) + 2) + (8 * u11))), (4, .int ((x1 + 8) + (sp_u4 n (Y.2 da) (x1 + 4)))), (3, .int (sp_u4 n (Y.2 da) (x1 + 4))), (0, .ref a), (1, .int x1), (2, .int x2)], [], M)) rfl rfl rfl (fun c_100 => ?_) (fun c_100 => ?_)
            · have c_100 : 2 ≤ (x2 - ((((x1 + 8) + (sp_u4 n (Y.2 da) (x1 + 4))) + 2) + (8 * u11))) := of_decide_eq_true c_100
              refine ml_st (S' := (106, [(5, .int ((((x1 + 8) + (sp_u4 n (Y.2 da) (x1 + 4))) + 2) + (8 * u11))), (4, .int ((x1 + 8) + (sp_u4 n (Y.2 da) (x1 + 4)))), (3, .int (sp_u4 n (Y.2 da) (x1 + 4))), (0, .ref a), (1, .int x1), (2, .int x2)], [.ref a], M)) rfl rfl rfl ?_
              refine tg_ref (S' := (109, [(5, .int ((((x1 + 8) + (sp_u4 n (Y.2 da) (x1 + 4))) + 2) + (8 * u11))), (4, .int ((x1 + 8) + (sp_u4 n (Y.2 da) (x1 + 4)))), (3, .int (sp_u4 n (Y.2 da) (x1 + 4))), (0, .ref a), (1, .int x1), (2, .int x2)], [.ref b], M)) rfl hS.1 hY0 (by decide) rfl rfl ?_
              refine ml_blk 3 (S' := (113, [(5, .int ((((x1 + 8) + (sp_u4 n (Y.2 da) (x1 + 4))) + 2) + (8 * u11))), (4, .int ((x1 + 8) + (sp_u4 n (Y.2 da) (x1 + 4)))), (3, .int (sp_u4 n (Y.2 da) (x1 + 4))), (0, .ref a), (1, .int x1), (2, .int x2)], [.int (((((x1 + 8) + (sp_u4 n (Y.2 da) (x1 + 4))) + 2) + (8 * u11)) + 2), .ref b], M)) rfl ?_
              refine ml_st (S' := (114, [(5, .int ((((x1 + 8) + (sp_u4 n (Y.2 da) (x1 + 4))) + 2) + (8 * u11))), (4, .int ((x1 + 8) + (sp_u4 n (Y.2 da) (x1 + 4)))), (3, .int (sp_u4 n (Y.2 da) (x1 + 4))), (0, .ref a), (1, .int x1), (2, .int x2)], [.ref a, .int (((((x1 + 8) + (sp_u4 n (Y.2 da) (x1 + 4))) + 2) + (8 * u11)) + 2), .ref b], M)) rfl rfl rfl ?_
              refine tg_ref (S' := (117, [(5, .int ((((x1 + 8) + (sp_u4 n (Y.2 da) (x1 + 4))) + 2) + (8 * u11))), (4, .int ((x1 + 8) + (sp_u4 n (Y.2 da) (x1 + 4)))), (3, .int (sp_u4 n (Y.2 da) (x1 + 4))), (0, .ref a), (1, .int x1), (2, .int x2)], [.ref b, .int (((((x1 + 8) + (sp_u4 n (Y.2 da) (x1 + 4))) + 2) + (8 * u11)) + 2), .ref b], M)) rfl hS.1 hY0 (by decide) rfl rfl ?_
              refine ml_st (S' := (119, [(5, .int ((((x1 + 8) + (sp_u4 n (Y.2 da) (x1 + 4))) + 2) + (8 * u11))), (4, .int ((x1 + 8) + (sp_u4 n (Y.2 da) (x1 + 4)))), (3, .int (sp_u4 n (Y.2 da) (x1 + 4))), (0, .ref a), (1, .int x1), (2, .int x2)], [.int ((((x1 + 8) + (sp_u4 n (Y.2 da) (x1 + 4))) + 2) + (8 * u11)), .ref b, .int (((((x1 + 8) + (sp_u4 n (Y.2 da) (x1 + 4))) + 2) + (8 * u11)) + 2), .ref b], M)) rfl rfl rfl ?_
              refine ml_call (a := [.ref b, .int ((((x1 + 8) + (sp_u4 n (Y.2 da) (x1 + 4))) + 2) + (8 * u11))]) (rest := [.int (((((x1 + 8) + (sp_u4 n (Y.2 da) (x1 + 4))) + 2) + (8 * u11)) + 2), .ref b]) rfl (okc_t rfl rfl rfl hS.1 hY2 (by decide)) rfl rfl (tq_u2 hS.1 hY2 (by omega)) (fun v12 M13 h14 => ?_)
              obtain ⟨⟨u15, rfl⟩, h14⟩ := h14
              rw [h14]
              show ml _ _ _ (122, [(5, .int ((((x1 + 8) + (sp_u4 n (Y.2 da) (x1 + 4))) + 2) + (8 * u11))), (4, .int ((x1 + 8) + (sp_u4 n (Y.2 da) (x1 + 4)))), (3, .int (sp_u4 n (Y.2 da) (x1 + 4))), (0, .ref a), (1, .int x1), (2, .int x2)], [.int u15, .int (((((x1 + 8) + (sp_u4 n (Y.2 da) (x1 + 4))) + 2) + (8 * u11)) + 2), .ref b], M) _
              refine ml_st (S' := (123, [(5, .int ((((x1 + 8) + (sp_u4 n (Y.2 da) (x1 + 4))) + 2) + (8 * u11))), (4, .int ((x1 + 8) + (sp_u4 n (Y.2 da) (x1 + 4)))), (3, .int (sp_u4 n (Y.2 da) (x1 + 4))), (0, .ref a), (1, .int x1), (2, .int x2)], [.int x2, .int u15, .int (((((x1 + 8) + (sp_u4 n (Y.2 da) (x1 + 4))) + 2) + (8 * u11)) + 2), .ref b], M)) rfl rfl rfl ?_
              refine ml_call (a := [.ref b, .int (((((x1 + 8) + (sp_u4 n (Y.2 da) (x1 + 4))) + 2) + (8 * u11)) + 2), .int u15, .int x2]) (rest := []) rfl (okc_t rfl rfl rfl hS.1 hY2 (by decide)) rfl rfl (tq_attributesEnd hS.1 hY2 (by omega)) (fun v16 M17 h18 => ?_)
              obtain ⟨⟨u19, rfl⟩, h18⟩ := h18
              rw [h18]
              show ml _ _ _ (126, [(5, .int ((((x1 + 8) + (sp_u4 n (Y.2 da) (x1 + 4))) + 2) + (8 * u11))), (4, .int ((x1 + 8) + (sp_u4 n (Y.2 da) (x1 + 4)))), (3, .int (sp_u4 n (Y.2 da) (x1 + 4))), (0, .ref a), (1, .int x1), (2, .int x2)], [.int u19], M) _
              exact ml_ret rfl (rfl) (⟨⟨_, rfl, Or.inr ⟨nneg c_22, c_32⟩⟩, rfl⟩)
            · have c_100 : ¬ (2 ≤ (x2 - ((((x1 + 8) + (sp_u4 n (Y.2 da) (x1 + 4))) + 2) + (8 * u11)))) := of_decide_eq_false c_100
              refine ml_st (S' := (104, [(5, .int ((((x1 + 8) + (sp_u4 n (Y.2 da) (x1 + 4))) + 2) + (8 * u11))), (4, .int ((x1 + 8) + (sp_u4 n (Y.2 da) (x1 + 4)))), (3, .int (sp_u4 n (Y.2 da) (x1 + 4))), (0, .ref a), (1, .int x1), (2, .int x2)], [.int (-1)], M)) rfl rfl rfl ?_
              exact ml_ret rfl (rfl) (⟨⟨_, rfl, Or.inl rfl⟩, rfl⟩)
          · have c_71 : ¬ ((8 * u7) ≤ ((x2 - ((x1 + 8) + (sp_u4 n (Y.2 da) (x1 + 4)))) - 2)) := of_decide_eq_false c_71
            refine ml_st (S' := (75, [], [.int (-1)], M)) rfl rfl rfl ?_
            exact ml_ret rfl (rfl) (⟨⟨_, rfl, Or.inl rfl⟩, rfl⟩)
      · have c_32 : ¬ ((sp_u4 n (Y.2 da) (x1 + 4)) ≤ ((x2 - x1) - 8)) := of_decide_eq_false c_32
        refine ml_st (S' := (36, [], [.int (-1)], M)) rfl rfl rfl ?_
        exact ml_ret rfl (rfl) (⟨⟨_, rfl, Or.inl rfl⟩, rfl⟩)
  · have c_5 : ¬ (8 ≤ (x2 - x1)) := of_decide_eq_false c_5
    refine ml_st (S' := (9, [(0, .ref a), (1, .int x1), (2, .int x2)], [.int (-1)], M)) rfl rfl rfl ?_
    exact ml_ret rfl (rfl) (⟨⟨_, rfl, Or.inl rfl⟩, rfl⟩)
set_option maxHeartbeats 2000000 in
theorem tx_formEnd {g : xe_G} {M : mi_H} {Y : yT} {a c b p vd da n : Nat} {pp : List Nat} {x1 x2 x3 : Int32}  (hW : WF g Y M) (hY0 : Y.1 a = some (0, [c, b, p, vd])) (hY1 : Y.1 c = some (3, [b, da, n])) (hY2 : Y.1 b = some (1, [da, n])) (hY3 : Y.1 p = some (7, pp)) (hY4 : Y.1 vd = some (10, [])) {d : Nat} (hd : 4 ≤ d) : mt (mT g) d 32 [.ref a, .int x1, .int x2, .int x3] M (fun v M' => (∃ x : Int32, v = some (.int x) ∧ (x = -1 ∨ (x1 = 2 → 0 ≤ (sp_u4 n (Y.2 da) (x2 + 4)).toInt ∧ (sp_u4 n (Y.2 da) (x2 + 4)) ≤ x3 - x2 - 8))) ∧ M' = M) := by
  obtain ⟨d, rfl⟩ : ∃ e, d = e + 1 := ⟨d - 1, by omega⟩
  have hS : st g Y M M := st.rf hW
  refine mt_in (b := mb_32 g) rfl rfl ?_
  show ml (mT g) d (mb_32 g).2 (0, [(0, .ref a), (1, .int x1), (2, .int x2), (3, .int x3)], [], M) _
  refine ml_blk 3 (S' := (3, [(0, .ref a), (1, .int x1), (2, .int x2), (3, .int x3)], [.int (x3 - x2)], M)) rfl ?_
  refine ml_st (S' := (4, [(0, .ref a), (1, .int x1), (2, .int x2), (3, .int x3)], [.int 2, .int (x3 - x2)], M)) rfl rfl rfl ?_
  refine ml_if2 (S1 := (9, [(0, .ref a), (1, .int x1), (2, .int x2), (3, .int x3)], [], M)) (S2 := (7, [(0, .ref a), (1, .int x1), (2, .int x2), (3, .int x3)], [], M)) rfl rfl rfl (fun c_4 => ?_) (fun c_4 => ?_)
  · have c_4 : 2 ≤ (x3 - x2) := of_decide_eq_true c_4
    refine ml_st (S' := (10, [(0, .ref a), (1, .int x1), (2, .int x2), (3, .int x3)], [.int x1], M)) rfl rfl rfl ?_
    refine ml_sw rfl (fun t_10 ht_10 => ?_)
    have kt_10 := ht_10
    have ht_10 : t_10 ∈ [64, 68, 83, 99, 106, 113] := mi_sw_sub ht_10 (by decide)
    simp only [List.mem_cons, List.not_mem_nil, or_false] at ht_10
    rcases ht_10 with rfl | rfl | rfl | rfl | rfl | rfl
    · show ml _ _ _ (64, [(0, .ref a), (1, .int x1), (2, .int x2), (3, .int x3)], [], M) _
      refine ml_blk 3 (S' := (67, [(0, .ref a), (1, .int x1), (2, .int x2), (3, .int x3)], [.int (x2 + 2)], M)) rfl ?_
      exact ml_ret rfl (rfl) (⟨⟨_, rfl, Or.inr (fun e => by rw [e] at kt_10; exact absurd kt_10 (by decide))⟩, rfl⟩)
    · show ml _ _ _ (68, [(0, .ref a), (1, .int x1), (2, .int x2), (3, .int x3)], [], M) _
      refine ml_blk 3 (S' := (71, [(0, .ref a), (1, .int x1), (2, .int x2), (3, .int x3)], [.int (x2 + 2)], M)) rfl ?_
      refine ml_blk 2 (S' := (73, [(0, .ref a), (1, .int x1), (2, .int x2), (3, .int x3)], [.ref a, .int 2, .int (x2 + 2)], M)) rfl ?_
      refine tg_ref (S' := (76, [(0, .ref a), (1, .int x1), (2, .int x2), (3, .int x3)], [.ref b, .int 2, .int (x2 + 2)], M)) rfl hS.1 hY0 (by decide) rfl rfl ?_
      refine ml_st (S' := (77, [(0, .ref a), (1, .int x1), (2, .int x2), (3, .int x3)], [.int x2, .ref b, .int 2, .int (x2 + 2)], M)) rfl rfl rfl ?_
      refine ml_call (a := [.ref b, .int x2]) (rest := [.int 2, .int (x2 + 2)]) rfl (okc_t rfl rfl rfl hS.1 hY2 (by decide)) rfl rfl (tq_u2 hS.1 hY2 (by omega)) (fun v1 M2 h3 => ?_)
      obtain ⟨⟨u4, rfl⟩, h3⟩ := h3
      rw [h3]
      show ml _ _ _ (80, [(0, .ref a), (1, .int x1), (2, .int x2), (3, .int x3)], [.int u4, .int 2, .int (x2 + 2)], M) _
      refine ml_blk 2 (S' := (82, [(0, .ref a), (1, .int x1), (2, .int x2), (3, .int x3)], [.int ((x2 + 2) + (2 * u4))], M)) rfl ?_
      exact ml_ret rfl (rfl) (⟨⟨_, rfl, Or.inr (fun e => by rw [e] at kt_10; exact absurd kt_10 (by decide))⟩, rfl⟩)
    · show ml _ _ _ (83, [(0, .ref a), (1, .int x1), (2, .int x2), (3, .int x3)], [], M) _
      refine ml_blk 3 (S' := (86, [(0, .ref a), (1, .int x1), (2, .int x2), (3, .int x3)], [.int (x2 + 2)], M)) rfl ?_
      refine ml_blk 2 (S' := (89, [(0, .ref a), (1, .int x1), (2, .int x2), (3, .int x3)], [.ref a, .int 8, .int (x2 + 2)], M)) rfl ?_
      refine tg_ref (S' := (92, [(0, .ref a), (1, .int x1), (2, .int x2), (3, .int x3)], [.ref b, .int 8, .int (x2 + 2)], M)) rfl hS.1 hY0 (by decide) rfl rfl ?_
      refine ml_st (S' := (93, [(0, .ref a), (1, .int x1), (2, .int x2), (3, .int x3)], [.int x2, .ref b, .int 8, .int (x2 + 2)], M)) rfl rfl rfl ?_
      refine ml_call (a := [.ref b, .int x2]) (rest := [.int 8, .int (x2 + 2)]) rfl (okc_t rfl rfl rfl hS.1 hY2 (by decide)) rfl rfl (tq_u2 hS.1 hY2 (by omega)) (fun v5 M6 h7 => ?_)
      obtain ⟨⟨u8, rfl⟩, h7⟩ := h7
      rw [h7]
      show ml _ _ _ (96, [(0, .ref a), (1, .int x1), (2, .int x2), (3, .int x3)], [.int u8, .int 8, .int (x2 + 2)], M) _
      refine ml_blk 2 (S' := (98, [(0, .ref a), (1, .int x1), (2, .int x2), (3, .int x3)], [.int ((x2 + 2) + (8 * u8))], M)) rfl ?_
      exact ml_ret rfl (rfl) (⟨⟨_, rfl, Or.inr (fun e => by rw [e] at kt_10; exact absurd kt_10 (by decide))⟩, rfl⟩)
    · show ml _ _ _ (99, [(0, .ref a), (1, .int x1), (2, .int x2), (3, .int x3)], [], M) _
      refine ml_blk 3 (S' := (102, [(0, .ref a), (1, .int x1), (2, .int x2), (3, .int x3)], [.int x3, .int x2, .ref a], M)) rfl ?_
      refine ml_call (a := [.ref a, .int x2, .int x3]) (rest := []) rfl (okc_t rfl rfl rfl hS.1 hY0 (by decide)) rfl rfl (tw_At_bootstrapsEnd hS.1 hY0 hY1 hY2 hY3 hY4 (by omega)) (fun v9 M10 h11 => ?_)
      obtain ⟨⟨u12, rfl⟩, h11⟩ := h11
      rw [h11]
      show ml _ _ _ (105, [(0, .ref a), (1, .int x1), (2, .int x2), (3, .int x3)], [.int u12], M) _
      exact ml_ret rfl (rfl) (⟨⟨_, rfl, Or.inr (fun e => by rw [e] at kt_10; exact absurd kt_10 (by decide))⟩, rfl⟩)
    · show ml _ _ _ (106, [(0, .ref a), (1, .int x1), (2, .int x2), (3, .int x3)], [], M) _
      refine ml_blk 3 (S' := (109, [(0, .ref a), (1, .int x1), (2, .int x2), (3, .int x3)], [.int x3, .int x2, .ref a], M)) rfl ?_
      refine ml_call (a := [.ref a, .int x2, .int x3]) (rest := []) rfl (okc_t rfl rfl rfl hS.1 hY0 (by decide)) rfl rfl (tw_At_recordEnd hS.1 hY0 hY1 hY2 hY3 hY4 (by omega)) (fun v13 M14 h15 => ?_)
      obtain ⟨⟨u16, rfl⟩, h15⟩ := h15
      rw [h15]
      show ml _ _ _ (112, [(0, .ref a), (1, .int x1), (2, .int x2), (3, .int x3)], [.int u16], M) _
      exact ml_ret rfl (rfl) (⟨⟨_, rfl, Or.inr (fun e => by rw [e] at kt_10; exact absurd kt_10 (by decide))⟩, rfl⟩)
    · show ml _ _ _ (113, [(0, .ref a), (1, .int x1), (2, .int x2), (3, .int x3)], [], M) _
      refine ml_blk 3 (S' := (116, [(0, .ref a), (1, .int x1), (2, .int x2), (3, .int x3)], [.int x3, .int x2, .ref a], M)) rfl ?_
      refine ml_call (a := [.ref a, .int x2, .int x3]) (rest := []) rfl (okc_t rfl rfl rfl hS.1 hY0 (by decide)) rfl rfl (tx_codeEnd hS.1 hY0 hY1 hY2 hY3 hY4 (by omega)) (fun v17 M18 h19 => ?_)
      obtain ⟨⟨u20, rfl, z21⟩, h19⟩ := h19
      rw [h19]
      show ml _ _ _ (119, [(0, .ref a), (1, .int x1), (2, .int x2), (3, .int x3)], [.int u20], M) _
      exact ml_ret rfl (rfl) (⟨⟨_, rfl, z21.imp id (fun h _ => h)⟩, rfl⟩)
  · have c_4 : ¬ (2 ≤ (x3 - x2)) := of_decide_eq_false c_4
    refine ml_st (S' := (8, [(0, .ref a), (1, .int x1), (2, .int x2), (3, .int x3)], [.int (-1)], M)) rfl rfl rfl ?_
    exact ml_ret rfl (rfl) (⟨⟨_, rfl, Or.inl rfl⟩, rfl⟩)
set_option maxHeartbeats 2000000 in
theorem tx_rowHolds {g : xe_G} {M : mi_H} {Y : yT} {a c b p vd da n co p2 o2 k2 : Nat} {pp : List Nat} {x2 : Int32}  (hW : WF g Y M) (hY0 : Y.1 a = some (0, [c, b, p, vd])) (hY1 : Y.1 c = some (3, [b, da, n])) (hY2 : Y.1 b = some (1, [da, n])) (hY3 : Y.1 p = some (7, pp)) (hY4 : Y.1 vd = some (10, [])) (hY5 : Y.1 co = some (4, [p2, o2, k2])) {d : Nat} (hd : 2 ≤ d) : mt (mT g) d 43 [.ref a, .ref co, .int x2] M (pZ M) := by
  obtain ⟨d, rfl⟩ : ∃ e, d = e + 1 := ⟨d - 1, by omega⟩
  have hS : st g Y M M := st.rf hW
  refine mt_in (b := mb_43 g) rfl rfl ?_
  show ml (mT g) d (mb_43 g).2 (0, [(0, .ref a), (1, .ref co), (2, .int x2)], [], M) _
  obtain ⟨⟨pp1, h2⟩, b3, h4⟩ := hS.1.lnk hY5 (by decide)
  obtain ⟨da5, n6, h7⟩ := hS.1.lnk h4 (by decide)
  refine ml_st (S' := (1, [(0, .ref a), (1, .ref co), (2, .int x2)], [.ref a], M)) rfl rfl rfl ?_
  refine tg_ref (S' := (4, [(0, .ref a), (1, .ref co), (2, .int x2)], [.ref b], M)) rfl hS.1 hY0 (by decide) rfl rfl ?_
  refine ml_blk 3 (S' := (7, [(0, .ref a), (1, .ref co), (2, .int x2)], [.int (x2 + 2), .ref b], M)) rfl ?_
  refine ml_call (a := [.ref b, .int (x2 + 2)]) (rest := []) rfl (okc_t rfl rfl rfl hS.1 hY2 (by decide)) rfl rfl (tq_u2 hS.1 hY2 (by omega)) (fun v8 M9 h10 => ?_)
  obtain ⟨⟨u11, rfl⟩, h10⟩ := h10
  rw [h10]
  show ml _ _ _ (10, [(0, .ref a), (1, .ref co), (2, .int x2)], [.int u11], M) _
  refine ml_st (S' := (11, [(3, .int u11), (0, .ref a), (1, .ref co), (2, .int x2)], [], M)) rfl rfl rfl ?_
  refine ml_st (S' := (12, [(3, .int u11), (0, .ref a), (1, .ref co), (2, .int x2)], [.ref a], M)) rfl rfl rfl ?_
  refine tg_ref (S' := (15, [(3, .int u11), (0, .ref a), (1, .ref co), (2, .int x2)], [.ref b], M)) rfl hS.1 hY0 (by decide) rfl rfl ?_
  refine ml_blk 3 (S' := (19, [(3, .int u11), (0, .ref a), (1, .ref co), (2, .int x2)], [.int (x2 + 6), .ref b], M)) rfl ?_
  refine ml_call (a := [.ref b, .int (x2 + 6)]) (rest := []) rfl (okc_t rfl rfl rfl hS.1 hY2 (by decide)) rfl rfl (tq_u2 hS.1 hY2 (by omega)) (fun v12 M13 h14 => ?_)
  obtain ⟨⟨u15, rfl⟩, h14⟩ := h14
  rw [h14]
  show ml _ _ _ (22, [(3, .int u11), (0, .ref a), (1, .ref co), (2, .int x2)], [.int u15], M) _
  refine ml_st (S' := (24, [(4, .int u15), (3, .int u11), (0, .ref a), (1, .ref co), (2, .int x2)], [], M)) rfl rfl rfl ?_
  refine ml_st (S' := (25, [(4, .int u15), (3, .int u11), (0, .ref a), (1, .ref co), (2, .int x2)], [.ref a], M)) rfl rfl rfl ?_
  refine tg_ref (S' := (28, [(4, .int u15), (3, .int u11), (0, .ref a), (1, .ref co), (2, .int x2)], [.ref b], M)) rfl hS.1 hY0 (by decide) rfl rfl ?_
  refine ml_st (S' := (29, [(4, .int u15), (3, .int u11), (0, .ref a), (1, .ref co), (2, .int x2)], [.int x2, .ref b], M)) rfl rfl rfl ?_
  refine ml_call (a := [.ref b, .int x2]) (rest := []) rfl (okc_t rfl rfl rfl hS.1 hY2 (by decide)) rfl rfl (tq_u2 hS.1 hY2 (by omega)) (fun v16 M17 h18 => ?_)
  obtain ⟨⟨u19, rfl⟩, h18⟩ := h18
  rw [h18]
  show ml _ _ _ (32, [(4, .int u15), (3, .int u11), (0, .ref a), (1, .ref co), (2, .int x2)], [.int u19], M) _
  refine ml_st (S' := (33, [(4, .int u15), (3, .int u11), (0, .ref a), (1, .ref co), (2, .int x2)], [.int u11, .int u19], M)) rfl rfl rfl ?_
  refine ml_if2 (S1 := (84, [], [], M)) (S2 := (36, [(4, .int u15), (3, .int u11), (0, .ref a), (1, .ref co), (2, .int x2)], [], M)) rfl rfl rfl (fun c_33 => ?_) (fun c_33 => ?_)
  · have c_33 : u11 ≤ u19 := of_decide_eq_true c_33
    refine ml_st (S' := (85, [], [.int 0], M)) rfl rfl rfl ?_
    exact ml_ret rfl (r_z (Or.inl rfl)) (⟨⟨_, rfl, Or.inl rfl⟩, rfl⟩)
  · have c_33 : ¬ (u11 ≤ u19) := of_decide_eq_false c_33
    refine ml_blk 2 (S' := (38, [(4, .int u15), (3, .int u11), (0, .ref a), (1, .ref co), (2, .int x2)], [.ref co, .int u11], M)) rfl ?_
    refine tg_int rfl hS.1 hY5 (by decide) rfl (fun u20 g21 => ?_)
    show ml _ _ _ (41, [(4, .int u15), (3, .int u11), (0, .ref a), (1, .ref co), (2, .int x2)], [.int u20, .int u11], M) _
    refine ml_if2 (S1 := (84, [], [], M)) (S2 := (44, [(4, .int u15), (3, .int u11), (0, .ref a), (1, .ref co), (2, .int x2)], [], M)) rfl rfl rfl (fun c_41 => ?_) (fun c_41 => ?_)
    · have c_41 : u20 < u11 := of_decide_eq_true c_41
      refine ml_st (S' := (85, [], [.int 0], M)) rfl rfl rfl ?_
      exact ml_ret rfl (r_z (Or.inl rfl)) (⟨⟨_, rfl, Or.inl rfl⟩, rfl⟩)
    · have c_41 : ¬ (u20 < u11) := of_decide_eq_false c_41
      refine ml_st (S' := (45, [(4, .int u15), (3, .int u11), (0, .ref a), (1, .ref co), (2, .int x2)], [.ref a], M)) rfl rfl rfl ?_
      refine tg_ref (S' := (48, [(4, .int u15), (3, .int u11), (0, .ref a), (1, .ref co), (2, .int x2)], [.ref b], M)) rfl hS.1 hY0 (by decide) rfl rfl ?_
      refine ml_blk 3 (S' := (51, [(4, .int u15), (3, .int u11), (0, .ref a), (1, .ref co), (2, .int x2)], [.int (x2 + 4), .ref b], M)) rfl ?_
      refine ml_call (a := [.ref b, .int (x2 + 4)]) (rest := []) rfl (okc_t rfl rfl rfl hS.1 hY2 (by decide)) rfl rfl (tq_u2 hS.1 hY2 (by omega)) (fun v22 M23 h24 => ?_)
      obtain ⟨⟨u25, rfl⟩, h24⟩ := h24
      rw [h24]
      show ml _ _ _ (54, [(4, .int u15), (3, .int u11), (0, .ref a), (1, .ref co), (2, .int x2)], [.int u25], M) _
      refine ml_st (S' := (55, [(4, .int u15), (3, .int u11), (0, .ref a), (1, .ref co), (2, .int x2)], [.ref co, .int u25], M)) rfl rfl rfl ?_
      refine ml_get (S' := (58, [(4, .int u15), (3, .int u11), (0, .ref a), (1, .ref co), (2, .int x2)], [.int u20, .int u25], M)) rfl g21 rfl ?_
      refine ml_if2 (S1 := (84, [], [], M)) (S2 := (61, [(4, .int u15), (3, .int u11), (0, .ref a), (1, .ref co), (2, .int x2)], [], M)) rfl rfl rfl (fun c_58 => ?_) (fun c_58 => ?_)
      · have c_58 : u20 ≤ u25 := of_decide_eq_true c_58
        refine ml_st (S' := (85, [], [.int 0], M)) rfl rfl rfl ?_
        exact ml_ret rfl (r_z (Or.inl rfl)) (⟨⟨_, rfl, Or.inl rfl⟩, rfl⟩)
      · have c_58 : ¬ (u20 ≤ u25) := of_decide_eq_false c_58
        refine ml_st (S' := (63, [(4, .int u15), (3, .int u11), (0, .ref a), (1, .ref co), (2, .int x2)], [.int u15], M)) rfl rfl rfl ?_
        refine ml_if (S1 := (80, [], [], M)) (S2 := (66, [(4, .int u15), (3, .int u11), (0, .ref a), (1, .ref co), (2, .int x2)], [], M)) rfl rfl rfl (fun c_63 => ?_) (fun c_63 => ?_)
        · have c_63 : u15 = 0 := of_decide_eq_true c_63
          refine ml_st (S' := (81, [], [.int 1], M)) rfl rfl rfl ?_
          refine ml_st (S' := (85, [], [.int 1], M)) rfl rfl rfl ?_
          exact ml_ret rfl (r_z (Or.inr rfl)) (⟨⟨_, rfl, Or.inr rfl⟩, rfl⟩)
        · have c_63 : ¬ (u15 = 0) := of_decide_eq_false c_63
          refine ml_st (S' := (67, [(4, .int u15), (3, .int u11), (0, .ref a), (1, .ref co), (2, .int x2)], [.ref a], M)) rfl rfl rfl ?_
          refine tg_ref (S' := (70, [(4, .int u15), (3, .int u11), (0, .ref a), (1, .ref co), (2, .int x2)], [.ref p], M)) rfl hS.1 hY0 (by decide) rfl rfl ?_
          refine ml_st (S' := (72, [(4, .int u15), (3, .int u11), (0, .ref a), (1, .ref co), (2, .int x2)], [.int u15, .ref p], M)) rfl rfl rfl ?_
          refine ml_call (a := [.ref p, .int u15]) (rest := []) rfl (okc_t rfl rfl rfl hS.1 hY3 (by decide)) rfl rfl (tq_tagOf hS.1 hY3 (by omega)) (fun v26 M27 h28 => ?_)
          obtain ⟨⟨u29, rfl⟩, h28⟩ := h28
          rw [h28]
          show ml _ _ _ (75, [(4, .int u15), (3, .int u11), (0, .ref a), (1, .ref co), (2, .int x2)], [.int u29], M) _
          refine ml_st (S' := (77, [(4, .int u15), (3, .int u11), (0, .ref a), (1, .ref co), (2, .int x2)], [.int 7, .int u29], M)) rfl rfl rfl ?_
          refine ml_if2 (S1 := (84, [], [], M)) (S2 := (80, [], [], M)) rfl rfl rfl (fun c_77 => ?_) (fun c_77 => ?_)
          · have c_77 : ¬ u29 = 7 := of_decide_eq_true c_77
            refine ml_st (S' := (85, [], [.int 0], M)) rfl rfl rfl ?_
            exact ml_ret rfl (r_z (Or.inl rfl)) (⟨⟨_, rfl, Or.inl rfl⟩, rfl⟩)
          · have c_77 : ¬ (¬ u29 = 7) := of_decide_eq_false c_77
            refine ml_st (S' := (81, [], [.int 1], M)) rfl rfl rfl ?_
            refine ml_st (S' := (85, [], [.int 1], M)) rfl rfl rfl ?_
            exact ml_ret rfl (r_z (Or.inr rfl)) (⟨⟨_, rfl, Or.inr rfl⟩, rfl⟩)
set_option maxHeartbeats 2000000 in
theorem tx_codeHolds {g : xe_G} {M : mi_H} {Y : yT} {a c b p vd da n me : Nat} {pp : List Nat} {x2 : Int32} {sn cn : Int32} (hW : WF g Y M) (hY0 : Y.1 a = some (0, [c, b, p, vd])) (hY1 : Y.1 c = some (3, [b, da, n])) (hY2 : Y.1 b = some (1, [da, n])) (hY3 : Y.1 p = some (7, pp)) (hY4 : Y.1 vd = some (10, [])) (hY5 : Y.1 me = some (6, [da, n])) (hsn : mi_gf M a 0 4 = some (.int sn)) (hcn : mi_gf M me 6 4 = some (.int cn)) (hl0 : 0 ≤ (sp_u4 n (Y.2 da) ((x2 + 6) + 4)).toInt) (hl1 : (sp_u4 n (Y.2 da) ((x2 + 6) + 4)).toInt ≤ n) {d : Nat} (hd : 4 ≤ d) : mt (mT g) d 30 [.ref a, .ref me, .int x2] M (fun v M' => ∃ Y', ∃ x : Int32, (v = some (.int x) ∧ (x = 0 ∨ x = 1)) ∧ sv g Y M Y' M' [a, vd, me] 2 23 ∧ mi_gf M' me 6 4 = some (.int cn) ∧ (x = 0 ∨ ∃ s1, mi_gf M' a 0 4 = some (.int s1) ∧ (b2 sn → b2 s1))) := by
  obtain ⟨d, rfl⟩ : ∃ e, d = e + 1 := ⟨d - 1, by omega⟩
  have hS : sf g Y [a, vd, me] M M := sf.rf hW
  refine mt_in (b := mb_30 g) rfl rfl ?_
  show ml (mT g) d (mb_30 g).2 (0, [(0, .ref a), (1, .ref me), (2, .int x2)], [], M) _
  have hA : sv g Y M Y M [a, vd, me] 0 0 := sv.rf hW
  have hW_hM2 := hS.1.1
  refine mm_new (k := 4) (N := 11) (ds := [.int 0, .int 0, .int 0, .int 0, .int 0, .null, .int 0, .null, .int 0, .null, .null]) rfl hW_hM2 (fun M1 hM2 => ?_)
  show ml _ _ _ (3, [(0, .ref a), (1, .ref me), (2, .int x2)], [.ref M.2.1], M1) _
  refine ml_blk 2 (S' := (5, [(0, .ref a), (1, .ref me), (2, .int x2)], [.ref a, .ref M.2.1, .ref M.2.1], M1)) rfl ?_
  refine tg_ref (S' := (8, [(0, .ref a), (1, .ref me), (2, .int x2)], [.ref c, .ref M.2.1, .ref M.2.1], M1)) rfl hM2.1.1 hY0 (by decide) rfl rfl ?_
  refine ml_blk 3 (S' := (12, [(0, .ref a), (1, .ref me), (2, .int x2)], [.int (x2 + 6), .ref c, .ref M.2.1, .ref M.2.1], M1)) rfl ?_
  refine ml_call (a := [.ref M.2.1, .ref c, .int (x2 + 6)]) (rest := [.ref M.2.1]) rfl (okc_v rfl rfl rfl hM2.2.1) rfl rfl (tk_Code hW_hM2 hM2 hY1 hY2 (hl0) (hl1) (by omega)) (fun v4 M5 h6 => ?_)
  obtain ⟨rfl, Y7, p8, o9, h10, h11, h12⟩ := h6
  have hA13 := (hA.sf hS).sn h10
  have hS14 : sf g Y7 [a, vd, me] M5 M5 := sf.rf hA13.1.1
  have g15 := gf_fr (h10.2.2.2.2 a (hW_hM2.2.1 _ _ hY0)) hsn
  have g16 := gf_fr (h10.2.2.2.2 me (hW_hM2.2.1 _ _ hY5)) hcn
  have h17 := (h11 _ _ hY0).1
  have h18 := (h11 _ _ hY1).1
  have h19 := (h11 _ _ hY2).1
  have h20 := (h11 _ _ hY3).1
  have h21 := (h11 _ _ hY4).1
  have h22 := (h11 _ _ hY5).1
  show ml _ _ _ (15, [(0, .ref a), (1, .ref me), (2, .int x2)], [.ref M.2.1], M5) _
  refine ml_st (S' := (16, [(3, .ref M.2.1), (0, .ref a), (1, .ref me), (2, .int x2)], [], M5)) rfl rfl rfl ?_
  refine ml_st (S' := (17, [(3, .ref M.2.1), (0, .ref a), (1, .ref me), (2, .int x2)], [.ref M.2.1], M5)) rfl rfl rfl ?_
  refine tg_int rfl hS14.1.1 h12 (by decide) rfl (fun u23 g24 => ?_)
  show ml _ _ _ (20, [(3, .ref M.2.1), (0, .ref a), (1, .ref me), (2, .int x2)], [.int u23], M5) _
  refine ml_st (S' := (21, [(3, .ref M.2.1), (0, .ref a), (1, .ref me), (2, .int x2)], [.int 1, .int u23], M5)) rfl rfl rfl ?_
  refine ml_if2 (S1 := (33, [(0, .ref a), (2, .int x2)], [], M5)) (S2 := (24, [(3, .ref M.2.1), (0, .ref a), (1, .ref me), (2, .int x2)], [], M5)) rfl rfl rfl (fun c_21 => ?_) (fun c_21 => ?_)
  · have c_21 : u23 < 1 := of_decide_eq_true c_21
    refine ml_st (S' := (34, [(0, .ref a), (2, .int x2)], [.ref a], M5)) rfl rfl rfl ?_
    refine tg_ref (S' := (37, [(0, .ref a), (2, .int x2)], [.ref vd], M5)) rfl hS14.1.1 h17 (by decide) rfl rfl ?_
    refine ml_blk 2 (S' := (40, [(0, .ref a), (2, .int x2)], [.int x2, .int 41, .ref vd], M5)) rfl ?_
    refine ml_call (a := [.ref vd, .int 41, .int x2]) (rest := []) rfl (okc_t rfl rfl rfl hS14.1.1 h21 (by decide)) rfl rfl (tw_Ve_wrong hS14.1.1 h21 (by omega)) (fun v25 M26 h27 => ?_)
    obtain ⟨rfl, h27⟩ := h27
    have g29 := h27.2.gf (nin_cons (ykne h17 h21 (by decide)) nin_nil) g15
    have g30 := h27.2.gf (nin_cons (ykne h22 h21 (by decide)) nin_nil) g16
    have hS31 := hS14.tr h27 (by simp)
    show ml _ _ _ (43, [(0, .ref a), (2, .int x2)], [.int 0], M26) _
    exact ml_ret rfl (r_z (Or.inl rfl)) (⟨Y7, _, ⟨rfl, Or.inl rfl⟩, (hA13.sf hS31).le (by omega) (by omega), g30, Or.inl rfl⟩)
  · have c_21 : ¬ (u23 < 1) := of_decide_eq_false c_21
    refine ml_st (S' := (25, [(3, .ref M.2.1), (0, .ref a), (1, .ref me), (2, .int x2)], [.ref M.2.1], M5)) rfl rfl rfl ?_
    refine ml_get (S' := (28, [(3, .ref M.2.1), (0, .ref a), (1, .ref me), (2, .int x2)], [.int u23], M5)) rfl g24 rfl ?_
    refine ml_st (S' := (30, [(3, .ref M.2.1), (0, .ref a), (1, .ref me), (2, .int x2)], [.int 65535, .int u23], M5)) rfl rfl rfl ?_
    refine ml_if2 (S1 := (44, [(3, .ref M.2.1), (0, .ref a), (1, .ref me), (2, .int x2)], [], M5)) (S2 := (33, [(0, .ref a), (2, .int x2)], [], M5)) rfl rfl rfl (fun c_30 => ?_) (fun c_30 => ?_)
    · have c_30 : u23 ≤ 65535 := of_decide_eq_true c_30
      refine ml_st (S' := (45, [(3, .ref M.2.1), (0, .ref a), (1, .ref me), (2, .int x2)], [.ref M.2.1], M5)) rfl rfl rfl ?_
      refine tg_int rfl hS14.1.1 h12 (by decide) rfl (fun u32 g33 => ?_)
      show ml _ _ _ (48, [(3, .ref M.2.1), (0, .ref a), (1, .ref me), (2, .int x2)], [.int u32], M5) _
      refine ml_st (S' := (49, [(3, .ref M.2.1), (0, .ref a), (1, .ref me), (2, .int x2)], [.ref me, .int u32], M5)) rfl rfl rfl ?_
      refine tg_int rfl hS14.1.1 h22 (by decide) rfl (fun u34 g35 => ?_)
      show ml _ _ _ (52, [(3, .ref M.2.1), (0, .ref a), (1, .ref me), (2, .int x2)], [.int u34, .int u32], M5) _
      refine ml_if2 (S1 := (66, [(3, .ref M.2.1), (0, .ref a), (1, .ref me), (2, .int x2)], [], M5)) (S2 := (55, [(3, .ref M.2.1), (0, .ref a), (1, .ref me), (2, .int x2)], [], M5)) rfl rfl rfl (fun c_52 => ?_) (fun c_52 => ?_)
      · have c_52 : u34 ≤ u32 := of_decide_eq_true c_52
        refine ml_st (S' := (67, [(3, .ref M.2.1), (0, .ref a), (1, .ref me), (2, .int x2)], [.int 0], M5)) rfl rfl rfl ?_
        refine ml_st (S' := (69, [(0, .ref a), (1, .ref me), (2, .int x2), (3, .ref M.2.1), (4, .int 0)], [], M5)) rfl rfl rfl ?_
        have L_69 : ∀ (n_69 : Nat) (i69_4 : Int32), (2147483648 - i69_4.toInt).toNat ≤ n_69 → ml (mT g) d (mb_30 g).2 (69, [(0, .ref a), (1, .ref me), (2, .int x2), (3, .ref M.2.1), (4, .int i69_4)], [], M5) (fun v M' => ∃ Y', ∃ x : Int32, (v = some (.int x) ∧ (x = 0 ∨ x = 1)) ∧ sv g Y M Y' M' [a, vd, me] 2 23 ∧ mi_gf M' me 6 4 = some (.int cn) ∧ (x = 0 ∨ ∃ s1, mi_gf M' a 0 4 = some (.int s1) ∧ (b2 sn → b2 s1))) := by
          intro n_69
          induction n_69 with
          | zero => intro i69_4 hn; exact (loop_zero hn).elim
          | succ n_69 ih_69 =>
            intro i69_4 hn_69
            refine ml_blk 2 (S' := (72, [(0, .ref a), (1, .ref me), (2, .int x2), (3, .ref M.2.1), (4, .int i69_4)], [.ref M.2.1, .int i69_4], M5)) rfl ?_
            refine tg_int rfl hS14.1.1 h12 (by decide) rfl (fun u36 g37 => ?_)
            show ml _ _ _ (75, [(0, .ref a), (1, .ref me), (2, .int x2), (3, .ref M.2.1), (4, .int i69_4)], [.int u36, .int i69_4], M5) _
            refine ml_if2 (S1 := (113, [(0, .ref a), (1, .ref me), (2, .int x2), (3, .ref M.2.1), (4, .int i69_4)], [], M5)) (S2 := (78, [(0, .ref a), (1, .ref me), (2, .int x2), (3, .ref M.2.1), (4, .int i69_4)], [], M5)) rfl rfl rfl (fun c_75 => ?_) (fun c_75 => ?_)
            · have c_75 : u36 ≤ i69_4 := of_decide_eq_true c_75
              refine ml_blk 2 (S' := (115, [(0, .ref a), (1, .ref me), (2, .int x2), (3, .ref M.2.1), (4, .int i69_4)], [.ref M.2.1, .ref me], M5)) rfl ?_
              refine tp_put rfl hS14.1 h22 (by decide) rfl (Or.inr ⟨_, rfl, _, _, h12⟩) rfl rfl (fun M38 hS39 f40 => ?_)
              have hS41 := hS14.put hS39 f40 (by simp)
              have g42 := gf_fr (f40.1 a (ykne h17 h22 (by decide))) g15
              have g43 := f40.2.1 4 _ (by decide) g16
              show ml _ _ _ (118, [(0, .ref a), (1, .ref me), (2, .int x2), (3, .ref M.2.1), (4, .int i69_4)], [], M38) _
              refine ml_blk 2 (S' := (120, [(0, .ref a), (1, .ref me), (2, .int x2), (3, .ref M.2.1), (4, .int i69_4)], [.ref M.2.1, .ref a], M38)) rfl ?_
              refine tg_int rfl hS41.1.1 h12 (by decide) rfl (fun u44 g45 => ?_)
              show ml _ _ _ (123, [(0, .ref a), (1, .ref me), (2, .int x2), (3, .ref M.2.1), (4, .int i69_4)], [.int u44, .ref a], M38) _
              refine ml_blk 2 (S' := (126, [(0, .ref a), (1, .ref me), (2, .int x2), (3, .ref M.2.1), (4, .int i69_4)], [.ref M.2.1, .int 8, .int u44, .ref a], M38)) rfl ?_
              refine tg_int rfl hS41.1.1 h12 (by decide) rfl (fun u46 g47 => ?_)
              show ml _ _ _ (129, [(0, .ref a), (1, .ref me), (2, .int x2), (3, .ref M.2.1), (4, .int i69_4)], [.int u46, .int 8, .int u44, .ref a], M38) _
              refine ml_blk 2 (S' := (131, [(0, .ref a), (1, .ref me), (2, .int x2), (3, .ref M.2.1), (4, .int i69_4)], [.int (u44 + (8 * u46)), .ref a], M38)) rfl ?_
              refine ml_call (a := [.ref a, .int (u44 + (8 * u46))]) (rest := []) rfl (okc_t rfl rfl rfl hS41.1.1 h17 (by decide)) rfl rfl (tx_codeAttributesHold hS41.1.1 h17 h18 h19 h20 h21 g42 (by omega)) (fun v48 M49 h50 => ?_)
              obtain ⟨⟨u51, rfl, z52⟩, h50⟩ := h50
              have g53 := h50.2.gf (nin_cons (ykne h22 h17 (by decide)) (nin_cons (ykne h22 h21 (by decide)) nin_nil)) g43
              have hS54 := hS41.tr h50 (by simp)
              show ml _ _ _ (134, [(0, .ref a), (1, .ref me), (2, .int x2), (3, .ref M.2.1), (4, .int i69_4)], [.int u51], M49) _
              exact ml_ret rfl (r_z (qS_z z52)) (⟨Y7, _, ⟨rfl, qS_z z52⟩, (hA13.sf hS54).le (by omega) (by omega), g53, z52.imp id (fun h => h.2)⟩)
            · have c_75 : ¬ (u36 ≤ i69_4) := of_decide_eq_false c_75
              refine ml_blk 3 (S' := (81, [(0, .ref a), (1, .ref me), (2, .int x2), (3, .ref M.2.1), (4, .int i69_4)], [.ref M.2.1, .ref M.2.1, .ref a], M5)) rfl ?_
              refine tg_int rfl hS14.1.1 h12 (by decide) rfl (fun u55 g56 => ?_)
              show ml _ _ _ (84, [(0, .ref a), (1, .ref me), (2, .int x2), (3, .ref M.2.1), (4, .int i69_4)], [.int u55, .ref M.2.1, .ref a], M5) _
              refine ml_blk 3 (S' := (89, [(0, .ref a), (1, .ref me), (2, .int x2), (3, .ref M.2.1), (4, .int i69_4)], [.int (8 * i69_4), .int u55, .ref M.2.1, .ref a], M5)) rfl ?_
              refine ml_st (S' := (90, [(0, .ref a), (1, .ref me), (2, .int x2), (3, .ref M.2.1), (4, .int i69_4)], [.int (u55 + (8 * i69_4)), .ref M.2.1, .ref a], M5)) rfl rfl rfl ?_
              refine ml_call (a := [.ref a, .ref M.2.1, .int (u55 + (8 * i69_4))]) (rest := []) rfl (okc_t rfl rfl rfl hS14.1.1 h17 (by decide)) rfl rfl (tx_rowHolds hS14.1.1 h17 h18 h19 h20 h21 h12 (by omega)) (fun v57 M58 h59 => ?_)
              obtain ⟨⟨u60, rfl, z61⟩, h59⟩ := h59
              rw [h59]
              show ml _ _ _ (93, [(0, .ref a), (1, .ref me), (2, .int x2), (3, .ref M.2.1), (4, .int i69_4)], [.int u60], M5) _
              refine ml_if (S1 := (107, [(0, .ref a), (1, .ref me), (2, .int x2), (3, .ref M.2.1), (4, .int i69_4)], [], M5)) (S2 := (96, [(0, .ref a), (1, .ref me), (2, .int x2), (3, .ref M.2.1), (4, .int i69_4)], [], M5)) rfl rfl rfl (fun c_93 => ?_) (fun c_93 => ?_)
              · have c_93 : ¬ u60 = 0 := of_decide_eq_true c_93
                refine ml_st (S' := (110, [(4, .int (i69_4 + 1)), (0, .ref a), (1, .ref me), (2, .int x2), (3, .ref M.2.1)], [], M5)) rfl rfl rfl ?_
                refine ml_st (S' := (69, [(0, .ref a), (1, .ref me), (2, .int x2), (3, .ref M.2.1), (4, .int (i69_4 + 1))], [], M5)) rfl rfl rfl ?_
                exact ih_69 (i69_4 + 1) (loop_inc (Int32.not_le.mp c_75) hn_69) 
              · have c_93 : ¬ (¬ u60 = 0) := of_decide_eq_false c_93
                refine ml_st (S' := (97, [(0, .ref a), (1, .ref me), (2, .int x2), (3, .ref M.2.1), (4, .int i69_4)], [.ref a], M5)) rfl rfl rfl ?_
                refine tg_ref (S' := (100, [(0, .ref a), (1, .ref me), (2, .int x2), (3, .ref M.2.1), (4, .int i69_4)], [.ref vd], M5)) rfl hS14.1.1 h17 (by decide) rfl rfl ?_
                refine ml_blk 2 (S' := (103, [(0, .ref a), (1, .ref me), (2, .int x2), (3, .ref M.2.1), (4, .int i69_4)], [.int x2, .int 43, .ref vd], M5)) rfl ?_
                refine ml_call (a := [.ref vd, .int 43, .int x2]) (rest := []) rfl (okc_t rfl rfl rfl hS14.1.1 h21 (by decide)) rfl rfl (tw_Ve_wrong hS14.1.1 h21 (by omega)) (fun v62 M63 h64 => ?_)
                obtain ⟨rfl, h64⟩ := h64
                have g66 := h64.2.gf (nin_cons (ykne h17 h21 (by decide)) nin_nil) g15
                have g67 := h64.2.gf (nin_cons (ykne h22 h21 (by decide)) nin_nil) g16
                have hS68 := hS14.tr h64 (by simp)
                show ml _ _ _ (106, [(0, .ref a), (1, .ref me), (2, .int x2), (3, .ref M.2.1), (4, .int i69_4)], [.int 0], M63) _
                exact ml_ret rfl (r_z (Or.inl rfl)) (⟨Y7, _, ⟨rfl, Or.inl rfl⟩, (hA13.sf hS68).le (by omega) (by omega), g67, Or.inl rfl⟩)
        exact L_69 _ 0 (Nat.le_refl _) 
      · have c_52 : ¬ (u34 ≤ u32) := of_decide_eq_false c_52
        refine ml_st (S' := (56, [(3, .ref M.2.1), (0, .ref a), (1, .ref me), (2, .int x2)], [.ref a], M5)) rfl rfl rfl ?_
        refine tg_ref (S' := (59, [(3, .ref M.2.1), (0, .ref a), (1, .ref me), (2, .int x2)], [.ref vd], M5)) rfl hS14.1.1 h17 (by decide) rfl rfl ?_
        refine ml_blk 2 (S' := (62, [(3, .ref M.2.1), (0, .ref a), (1, .ref me), (2, .int x2)], [.int x2, .int 42, .ref vd], M5)) rfl ?_
        refine ml_call (a := [.ref vd, .int 42, .int x2]) (rest := []) rfl (okc_t rfl rfl rfl hS14.1.1 h21 (by decide)) rfl rfl (tw_Ve_wrong hS14.1.1 h21 (by omega)) (fun v69 M70 h71 => ?_)
        obtain ⟨rfl, h71⟩ := h71
        have g73 := h71.2.gf (nin_cons (ykne h17 h21 (by decide)) nin_nil) g15
        have g74 := h71.2.gf (nin_cons (ykne h22 h21 (by decide)) nin_nil) g16
        have hS75 := hS14.tr h71 (by simp)
        show ml _ _ _ (65, [(3, .ref M.2.1), (0, .ref a), (1, .ref me), (2, .int x2)], [.int 0], M70) _
        exact ml_ret rfl (r_z (Or.inl rfl)) (⟨Y7, _, ⟨rfl, Or.inl rfl⟩, (hA13.sf hS75).le (by omega) (by omega), g74, Or.inl rfl⟩)
    · have c_30 : ¬ (u23 ≤ 65535) := of_decide_eq_false c_30
      refine ml_st (S' := (34, [(0, .ref a), (2, .int x2)], [.ref a], M5)) rfl rfl rfl ?_
      refine tg_ref (S' := (37, [(0, .ref a), (2, .int x2)], [.ref vd], M5)) rfl hS14.1.1 h17 (by decide) rfl rfl ?_
      refine ml_blk 2 (S' := (40, [(0, .ref a), (2, .int x2)], [.int x2, .int 41, .ref vd], M5)) rfl ?_
      refine ml_call (a := [.ref vd, .int 41, .int x2]) (rest := []) rfl (okc_t rfl rfl rfl hS14.1.1 h21 (by decide)) rfl rfl (tw_Ve_wrong hS14.1.1 h21 (by omega)) (fun v76 M77 h78 => ?_)
      obtain ⟨rfl, h78⟩ := h78
      have g80 := h78.2.gf (nin_cons (ykne h17 h21 (by decide)) nin_nil) g15
      have g81 := h78.2.gf (nin_cons (ykne h22 h21 (by decide)) nin_nil) g16
      have hS82 := hS14.tr h78 (by simp)
      show ml _ _ _ (43, [(0, .ref a), (2, .int x2)], [.int 0], M77) _
      exact ml_ret rfl (r_z (Or.inl rfl)) (⟨Y7, _, ⟨rfl, Or.inl rfl⟩, (hA13.sf hS82).le (by omega) (by omega), g81, Or.inl rfl⟩)
theorem AW.step {f : Nat → Int32} {n : Nat} {c i : Int32} {a : Int32} (h : AW f n (c.toInt - i.toInt).toNat a) (hi : ¬ c ≤ i) : (0 ≤ a.toInt ∧ a.toInt + 6 ≤ n ∧ 0 ≤ (sp_u4 n f (a + 2)).toInt ∧ a.toInt + 6 + (sp_u4 n f (a + 2)).toInt ≤ n) ∧ AW f n (c.toInt - (i + 1).toInt).toNat (a + 6 + sp_u4 n f (a + 2)) := by
  have h1 := i_nle hi
  have h2 := inc_lt (Int32.not_le.mp hi)
  rw [show (c.toInt - i.toInt).toNat = (c.toInt - (i + 1).toInt).toNat + 1 by omega] at h
  obtain ⟨a1, a2, a3, a4, a5⟩ := h
  exact ⟨⟨a1, a2, a3, a4⟩, a5⟩
theorem len_ok {f : Nat → Int32} {n : Nat} {a u kd l : Int32} (hn : n < 1073741824) (h : 0 ≤ a.toInt ∧ a.toInt + 6 ≤ n ∧ 0 ≤ (sp_u4 n f (a + 2)).toInt ∧ a.toInt + 6 + (sp_u4 n f (a + 2)).toInt ≤ n) (hu : u = a + 6 + sp_u4 n f (a + 2)) (hz : u = -1 ∨ (kd = 2 → 0 ≤ l.toInt ∧ l ≤ (a + 6 + sp_u4 n f (a + 2)) - (a + 6) - 8)) : kd = 2 → 0 ≤ l.toInt ∧ l.toInt ≤ n := by
  obtain ⟨h0, h1, h2, h3⟩ := h
  have e6 : (6 : Int32).toInt = 6 := rfl
  have e8 : (8 : Int32).toInt = 8 := rfl
  have d6 : (a + 6).toInt = a.toInt + 6 := by rw [i_add (by omega) (by omega), e6]
  have dl : (a + 6 + sp_u4 n f (a + 2)).toInt = a.toInt + 6 + (sp_u4 n f (a + 2)).toInt := by rw [i_add (by omega) (by omega), d6]
  rcases hz with hz | hz
  · rw [hz] at hu
    rw [← hu] at dl
    have : (-1 : Int32).toInt = -1 := rfl
    omega
  · intro e
    obtain ⟨k1, k2⟩ := hz e
    have k3 := i_le k2
    rw [i_sub (by rw [i_sub (by omega) (by omega)]; omega) (by rw [i_sub (by omega) (by omega)]; omega), i_sub (by omega) (by omega)] at k3
    omega

set_option maxHeartbeats 2000000 in
theorem tx_ofMethod {g : xe_G} {M : mi_H} {Y : yT} {a c b p vd da n me : Nat} {pp : List Nat}  (hW : WF g Y M) (hY0 : Y.1 a = some (0, [c, b, p, vd])) (hY1 : Y.1 c = some (3, [b, da, n])) (hY2 : Y.1 b = some (1, [da, n])) (hY3 : Y.1 p = some (7, pp)) (hY4 : Y.1 vd = some (10, [])) (hY5 : Y.1 me = some (6, [da, n])) {d : Nat} (hd : 5 ≤ d) : mt (mT g) d 40 [.ref a, .ref me] M (fun v M' => ∃ Y', (∃ x : Int32, v = some (.int x) ∧ (x = 0 ∨ x = 1)) ∧ sv g Y M Y' M' [a, vd, me] 2 23) := by
  obtain ⟨d, rfl⟩ : ∃ e, d = e + 1 := ⟨d - 1, by omega⟩
  have hS : sf g Y [a, vd, me] M M := sf.rf hW
  refine mt_in (b := mb_40 g) rfl rfl ?_
  show ml (mT g) d (mb_40 g).2 (0, [(0, .ref a), (1, .ref me)], [], M) _
  have hA : sv g Y M Y M [a, vd, me] 0 0 := sv.rf hW
  obtain ⟨cn, ma, hcn, hma, hc0, haw⟩ := hW.mem hY5
  have hn := hW.bn hY2
  refine ml_blk 2 (S' := (2, [(0, .ref a), (1, .ref me)], [.int 0, .ref a], M)) rfl ?_
  refine tp_put rfl hS.1 hY0 (by decide) rfl (⟨_, rfl⟩) rfl rfl (fun M1 hS2 f3 => ?_)
  have hS4 := hS.put hS2 f3 (by simp)
  have g5 := gf_fr (f3.1 me (ykne hY5 hY0 (by decide))) hcn
  have g6 := gf_fr (f3.1 me (ykne hY5 hY0 (by decide))) hma
  show ml _ _ _ (5, [(0, .ref a), (1, .ref me)], [], M1) _
  refine ml_st (S' := (6, [(0, .ref a), (1, .ref me)], [.ref me], M1)) rfl rfl rfl ?_
  refine ml_get (S' := (9, [(0, .ref a), (1, .ref me)], [.int ma], M1)) rfl g6 rfl ?_
  refine ml_st (S' := (10, [(2, .int ma), (0, .ref a), (1, .ref me)], [], M1)) rfl rfl rfl ?_
  refine ml_st (S' := (11, [(2, .int ma), (0, .ref a), (1, .ref me)], [.int 0], M1)) rfl rfl rfl ?_
  refine ml_st (S' := (12, [(0, .ref a), (1, .ref me), (2, .int ma), (3, .int 0)], [], M1)) rfl rfl rfl ?_
  have L_12 : ∀ (n_12 : Nat) (i12_2 : Int32) (i12_3 : Int32) (sq : Int32) (Y_12 : yT) (M_12 : mi_H) (nc_12 ns_12 : Nat), (2147483648 - i12_3.toInt).toNat ≤ n_12 → sv g Y M1 Y_12 M_12 [a, vd, me] nc_12 ns_12 → (mi_gf M_12 a 0 4 = some (.int sq) ∧ mi_gf M_12 me 6 4 = some (.int cn) ∧ AW (Y_12.2 da) n (cn.toInt - i12_3.toInt).toNat i12_2 ∧ ((nc_12 = 0 ∧ ns_12 = 0) ∨ (nc_12 ≤ 2 ∧ ns_12 ≤ 23 ∧ b2 sq))) → ml (mT g) d (mb_40 g).2 (12, [(0, .ref a), (1, .ref me), (2, .int i12_2), (3, .int i12_3)], [], M_12) (fun v M' => ∃ Y', (∃ x : Int32, v = some (.int x) ∧ (x = 0 ∨ x = 1)) ∧ sv g Y M Y' M' [a, vd, me] 2 23) := by
    intro n_12
    induction n_12 with
    | zero => intro i12_2 i12_3 sq Y_12 M_12 nc_12 ns_12 hn; exact (loop_zero hn).elim
    | succ n_12 ih_12 =>
      intro i12_2 i12_3 sq Y_12 M_12 nc_12 ns_12 hn_12 hL_12 hi_12
      have hT0_12 := (hA.sf hS4).tr hL_12
      have hS7 : sf g Y_12 [a, vd, me] M_12 M_12 := sf.rf hT0_12.1.1
      have h8 := (hL_12.1.2.1 _ _ hY0).1
      have h9 := (hL_12.1.2.1 _ _ hY1).1
      have h10 := (hL_12.1.2.1 _ _ hY2).1
      have h11 := (hL_12.1.2.1 _ _ hY3).1
      have h12 := (hL_12.1.2.1 _ _ hY4).1
      have h13 := (hL_12.1.2.1 _ _ hY5).1
      have hda12 := hS7.1.1.lnk h10 (by decide)
      refine ml_blk 2 (S' := (14, [(0, .ref a), (1, .ref me), (2, .int i12_2), (3, .int i12_3)], [.ref me, .int i12_3], M_12)) rfl ?_
      refine ml_get (S' := (17, [(0, .ref a), (1, .ref me), (2, .int i12_2), (3, .int i12_3)], [.int cn, .int i12_3], M_12)) rfl hi_12.2.1 rfl ?_
      refine ml_if2 (S1 := (154, [(0, .ref a), (1, .ref me), (2, .int i12_2), (3, .int i12_3)], [], M_12)) (S2 := (20, [(0, .ref a), (1, .ref me), (2, .int i12_2), (3, .int i12_3)], [], M_12)) rfl rfl rfl (fun c_17 => ?_) (fun c_17 => ?_)
      · have c_17 : cn ≤ i12_3 := of_decide_eq_true c_17
        refine ml_blk 2 (S' := (156, [(0, .ref a), (1, .ref me), (2, .int i12_2), (3, .int i12_3)], [.ref a, .ref me], M_12)) rfl ?_
        refine ml_get (S' := (159, [(0, .ref a), (1, .ref me), (2, .int i12_2), (3, .int i12_3)], [.int sq, .ref me], M_12)) rfl hi_12.1 rfl ?_
        refine ml_blk 2 (S' := (162, [(0, .ref a), (1, .ref me), (2, .int i12_2), (3, .int i12_3)], [.int (sq &&& 12), .ref me], M_12)) rfl ?_
        refine ml_call (a := [.int (sq &&& 12)]) (rest := [.ref me]) rfl (rfl) rfl rfl (tw_J_bitCount hS7.1.1  (by omega)) (fun v14 M15 h16 => ?_)
        obtain ⟨⟨u17, rfl⟩, h16⟩ := h16
        rw [h16]
        show ml _ _ _ (165, [(0, .ref a), (1, .ref me), (2, .int i12_2), (3, .int i12_3)], [.int u17, .ref me], M_12) _
        refine tp_put rfl hS7.1 h13 (by decide) rfl (⟨_, rfl⟩) rfl rfl (fun M18 hS19 f20 => ?_)
        have hS21 := hS7.put hS19 f20 (by simp)
        have g22 := gf_fr (f20.1 a (ykne h8 h13 (by decide))) hi_12.1
        have g23 := f20.2.1 4 _ (by decide) hi_12.2.1
        show ml _ _ _ (168, [(0, .ref a), (1, .ref me), (2, .int i12_2), (3, .int i12_3)], [], M18) _
        refine ml_st (S' := (169, [(0, .ref a), (1, .ref me), (2, .int i12_2), (3, .int i12_3)], [.int 1], M18)) rfl rfl rfl ?_
        exact ml_ret rfl (r_z (Or.inr rfl)) (⟨Y_12, ⟨_, rfl, Or.inr rfl⟩, (hT0_12.sf hS21).le (by have hc : nc_12 ≤ 2 ∧ ns_12 ≤ 23 := hi_12.2.2.2.elim (fun q => ⟨by omega, by omega⟩) (fun q => ⟨q.1, q.2.1⟩); omega) (by have hc : nc_12 ≤ 2 ∧ ns_12 ≤ 23 := hi_12.2.2.2.elim (fun q => ⟨by omega, by omega⟩) (fun q => ⟨q.1, q.2.1⟩); omega)⟩)
      · have c_17 : ¬ (cn ≤ i12_3) := of_decide_eq_false c_17
        obtain ⟨hst, haw2⟩ := AW.step hi_12.2.2.1 c_17
        refine ml_blk 2 (S' := (22, [(0, .ref a), (1, .ref me), (2, .int i12_2), (3, .int i12_3)], [.ref a, .ref a], M_12)) rfl ?_
        refine tg_ref (S' := (25, [(0, .ref a), (1, .ref me), (2, .int i12_2), (3, .int i12_3)], [.ref b, .ref a], M_12)) rfl hS7.1.1 h8 (by decide) rfl rfl ?_
        refine ml_st (S' := (26, [(0, .ref a), (1, .ref me), (2, .int i12_2), (3, .int i12_3)], [.int i12_2, .ref b, .ref a], M_12)) rfl rfl rfl ?_
        refine ml_call (a := [.ref b, .int i12_2]) (rest := [.ref a]) rfl (okc_t rfl rfl rfl hS7.1.1 h10 (by decide)) rfl rfl (ct_u2 (hS7.1.1.bytes h10).1 (by omega)) (fun v24 M25 h26 => ?_)
        obtain ⟨rfl, h26⟩ := h26
        rw [h26]
        show ml _ _ _ (29, [(0, .ref a), (1, .ref me), (2, .int i12_2), (3, .int i12_3)], [.int (sp_u2 n (Y_12.2 da) i12_2), .ref a], M_12) _
        refine ml_call (a := [.ref a, .int (sp_u2 n (Y_12.2 da) i12_2)]) (rest := []) rfl (okc_t rfl rfl rfl hS7.1.1 h8 (by decide)) rfl rfl (tw_At_methodKind hS7.1.1 h8 h9 h10 h11 h12 (by omega)) (fun v27 M28 h29 => ?_)
        obtain ⟨⟨u30, rfl⟩, h29⟩ := h29
        rw [h29]
        show ml _ _ _ (32, [(0, .ref a), (1, .ref me), (2, .int i12_2), (3, .int i12_3)], [.int u30], M_12) _
        refine ml_st (S' := (34, [(4, .int u30), (0, .ref a), (1, .ref me), (2, .int i12_2), (3, .int i12_3)], [], M_12)) rfl rfl rfl ?_
        refine ml_blk 3 (S' := (38, [(4, .int u30), (0, .ref a), (1, .ref me), (2, .int i12_2), (3, .int i12_3)], [.int u30, .int i12_2, .ref a], M_12)) rfl ?_
        refine ml_call (a := [.ref a, .int i12_2, .int u30]) (rest := []) rfl (okc_t rfl rfl rfl hS7.1.1 h8 (by decide)) rfl rfl (tx_isNew hS7.1.1 h8 h9 h10 h11 h12 hi_12.1 (by omega)) (fun v31 M32 h33 => ?_)
        obtain ⟨⟨u34, rfl, z35⟩, h33⟩ := h33
        have g36 := h33.2.gf (nin_cons (ykne h13 h8 (by decide)) (nin_cons (ykne h13 h12 (by decide)) nin_nil)) hi_12.2.1
        have hS37 := hS7.tr h33 (by simp)
        show ml _ _ _ (41, [(4, .int u30), (0, .ref a), (1, .ref me), (2, .int i12_2), (3, .int i12_3)], [.int u34], M32) _
        refine ml_if (S1 := (46, [(4, .int u30), (0, .ref a), (1, .ref me), (2, .int i12_2), (3, .int i12_3)], [], M32)) (S2 := (44, [(4, .int u30), (0, .ref a), (1, .ref me), (2, .int i12_2), (3, .int i12_3)], [], M32)) rfl rfl rfl (fun c_41 => ?_) (fun c_41 => ?_)
        · have c_41 : ¬ u34 = 0 := of_decide_eq_true c_41
          obtain ⟨-, s38, hs1, hk1, hk2⟩ := z35.resolve_left c_41
          refine ml_st (S' := (48, [(4, .int u30), (0, .ref a), (1, .ref me), (2, .int i12_2), (3, .int i12_3)], [.int u30], M32)) rfl rfl rfl ?_
          have J_85 : (u30 = 2 → 0 ≤ (sp_u4 n (Y_12.2 da) ((i12_2 + 6) + 4)).toInt ∧ (sp_u4 n (Y_12.2 da) ((i12_2 + 6) + 4)).toInt ≤ n) → ml (mT g) d (mb_40 g).2 (85, [(0, .ref a), (1, .ref me), (2, .int i12_2), (3, .int i12_3), (4, .int u30)], [], M32) (fun v M' => ∃ Y', (∃ x : Int32, v = some (.int x) ∧ (x = 0 ∨ x = 1)) ∧ sv g Y M Y' M' [a, vd, me] 2 23) := by
            intro hj_85
            refine ml_blk 2 (S' := (88, [(0, .ref a), (1, .ref me), (2, .int i12_2), (3, .int i12_3), (4, .int u30)], [.int 2, .int u30], M32)) rfl ?_
            refine ml_if2 (S1 := (102, [(0, .ref a), (1, .ref me), (2, .int i12_2), (3, .int i12_3), (4, .int u30)], [], M32)) (S2 := (91, [(0, .ref a), (1, .ref me), (2, .int i12_2), (3, .int i12_3), (4, .int u30)], [], M32)) rfl rfl rfl (fun c_88 => ?_) (fun c_88 => ?_)
            · have c_88 : ¬ u30 = 2 := of_decide_eq_true c_88
              refine ml_blk 2 (S' := (105, [(0, .ref a), (1, .ref me), (2, .int i12_2), (3, .int i12_3), (4, .int u30)], [.int 3, .int u30], M32)) rfl ?_
              refine ml_if2 (S1 := (142, [(0, .ref a), (1, .ref me), (2, .int i12_2), (3, .int i12_3)], [], M32)) (S2 := (108, [(0, .ref a), (1, .ref me), (2, .int i12_2), (3, .int i12_3), (4, .int u30)], [], M32)) rfl rfl rfl (fun c_105 => ?_) (fun c_105 => ?_)
              · have c_105 : ¬ u30 = 3 := of_decide_eq_true c_105
                refine ml_blk 2 (S' := (144, [(0, .ref a), (1, .ref me), (2, .int i12_2), (3, .int i12_3)], [.int i12_2, .ref a], M32)) rfl ?_
                refine ml_call (a := [.ref a, .int i12_2]) (rest := []) rfl (okc_t rfl rfl rfl hS37.1.1 h8 (by decide)) rfl rfl (tx_behind hS37.1.1 h8 h9 h10 h11 h12 (by omega)) (fun v39 M40 h41 => ?_)
                obtain ⟨rfl, h41⟩ := h41
                rw [h41]
                show ml _ _ _ (147, [(0, .ref a), (1, .ref me), (2, .int i12_2), (3, .int i12_3)], [.int ((i12_2 + 6) + (sp_u4 n (Y_12.2 da) (i12_2 + 2)))], M32) _
                refine ml_st (S' := (148, [(2, .int ((i12_2 + 6) + (sp_u4 n (Y_12.2 da) (i12_2 + 2)))), (0, .ref a), (1, .ref me), (3, .int i12_3)], [], M32)) rfl rfl rfl ?_
                refine ml_st (S' := (151, [(3, .int (i12_3 + 1)), (2, .int ((i12_2 + 6) + (sp_u4 n (Y_12.2 da) (i12_2 + 2)))), (0, .ref a), (1, .ref me)], [], M32)) rfl rfl rfl ?_
                refine ml_st (S' := (12, [(0, .ref a), (1, .ref me), (2, .int ((i12_2 + 6) + (sp_u4 n (Y_12.2 da) (i12_2 + 2)))), (3, .int (i12_3 + 1))], [], M32)) rfl rfl rfl ?_
                exact ih_12 ((i12_2 + 6) + (sp_u4 n (Y_12.2 da) (i12_2 + 2))) (i12_3 + 1) s38 _ _ _ _ (loop_inc (Int32.not_le.mp c_17) hn_12) (hL_12.sf hS37) (⟨hs1, g36, (show AW (Y_12.2 da) n _ _ from (rfl : Y_12.2 da = Y_12.2 da) ▸ haw2), hi_12.2.2.2.imp id (fun q => ⟨q.1, q.2.1, hk1 q.2.2⟩)⟩)
              · have c_105 : ¬ (¬ u30 = 3) := of_decide_eq_false c_105
                refine ml_blk 2 (S' := (110, [(0, .ref a), (1, .ref me), (2, .int i12_2), (3, .int i12_3), (4, .int u30)], [.ref a, .ref me], M32)) rfl ?_
                refine tg_ref (S' := (113, [(0, .ref a), (1, .ref me), (2, .int i12_2), (3, .int i12_3), (4, .int u30)], [.ref b, .ref me], M32)) rfl hS37.1.1 h8 (by decide) rfl rfl ?_
                refine ml_blk 3 (S' := (117, [(0, .ref a), (1, .ref me), (2, .int i12_2), (3, .int i12_3), (4, .int u30)], [.int (i12_2 + 6), .ref b, .ref me], M32)) rfl ?_
                refine ml_call (a := [.ref b, .int (i12_2 + 6)]) (rest := [.ref me]) rfl (okc_t rfl rfl rfl hS37.1.1 h10 (by decide)) rfl rfl (tq_u2 hS37.1.1 h10 (by omega)) (fun v43 M44 h45 => ?_)
                obtain ⟨⟨u46, rfl⟩, h45⟩ := h45
                rw [h45]
                show ml _ _ _ (120, [(0, .ref a), (1, .ref me), (2, .int i12_2), (3, .int i12_3), (4, .int u30)], [.int u46, .ref me], M32) _
                refine tp_put rfl hS37.1 h13 (by decide) rfl (⟨_, rfl⟩) rfl rfl (fun M47 hS48 f49 => ?_)
                have hS50 := hS37.put hS48 f49 (by simp)
                have g51 := gf_fr (f49.1 a (ykne h8 h13 (by decide))) hs1
                have g52 := f49.2.1 4 _ (by decide) g36
                show ml _ _ _ (123, [(0, .ref a), (1, .ref me), (2, .int i12_2), (3, .int i12_3), (4, .int u30)], [], M47) _
                refine ml_blk 2 (S' := (125, [(0, .ref a), (1, .ref me), (2, .int i12_2), (3, .int i12_3), (4, .int u30)], [.int i12_2, .ref a], M47)) rfl ?_
                refine ml_call (a := [.ref a, .int i12_2]) (rest := []) rfl (okc_t rfl rfl rfl hS50.1.1 h8 (by decide)) rfl rfl (tw_At_areClasses hS50.1.1 h8 h9 h10 h11 h12 (by omega)) (fun v53 M54 h55 => ?_)
                obtain ⟨⟨u56, rfl, z57⟩, h55⟩ := h55
                rw [h55]
                show ml _ _ _ (128, [(0, .ref a), (1, .ref me), (2, .int i12_2), (3, .int i12_3), (4, .int u30)], [.int u56], M47) _
                refine ml_if (S1 := (142, [(0, .ref a), (1, .ref me), (2, .int i12_2), (3, .int i12_3)], [], M47)) (S2 := (131, [(0, .ref a), (1, .ref me), (2, .int i12_2), (3, .int i12_3), (4, .int u30)], [], M47)) rfl rfl rfl (fun c_128 => ?_) (fun c_128 => ?_)
                · have c_128 : ¬ u56 = 0 := of_decide_eq_true c_128
                  refine ml_blk 2 (S' := (144, [(0, .ref a), (1, .ref me), (2, .int i12_2), (3, .int i12_3)], [.int i12_2, .ref a], M47)) rfl ?_
                  refine ml_call (a := [.ref a, .int i12_2]) (rest := []) rfl (okc_t rfl rfl rfl hS50.1.1 h8 (by decide)) rfl rfl (tx_behind hS50.1.1 h8 h9 h10 h11 h12 (by omega)) (fun v58 M59 h60 => ?_)
                  obtain ⟨rfl, h60⟩ := h60
                  rw [h60]
                  show ml _ _ _ (147, [(0, .ref a), (1, .ref me), (2, .int i12_2), (3, .int i12_3)], [.int ((i12_2 + 6) + (sp_u4 n (Y_12.2 da) (i12_2 + 2)))], M47) _
                  refine ml_st (S' := (148, [(2, .int ((i12_2 + 6) + (sp_u4 n (Y_12.2 da) (i12_2 + 2)))), (0, .ref a), (1, .ref me), (3, .int i12_3)], [], M47)) rfl rfl rfl ?_
                  refine ml_st (S' := (151, [(3, .int (i12_3 + 1)), (2, .int ((i12_2 + 6) + (sp_u4 n (Y_12.2 da) (i12_2 + 2)))), (0, .ref a), (1, .ref me)], [], M47)) rfl rfl rfl ?_
                  refine ml_st (S' := (12, [(0, .ref a), (1, .ref me), (2, .int ((i12_2 + 6) + (sp_u4 n (Y_12.2 da) (i12_2 + 2)))), (3, .int (i12_3 + 1))], [], M47)) rfl rfl rfl ?_
                  exact ih_12 ((i12_2 + 6) + (sp_u4 n (Y_12.2 da) (i12_2 + 2))) (i12_3 + 1) s38 _ _ _ _ (loop_inc (Int32.not_le.mp c_17) hn_12) (hL_12.sf hS50) (⟨g51, g52, (show AW (Y_12.2 da) n _ _ from (rfl : Y_12.2 da = Y_12.2 da) ▸ haw2), hi_12.2.2.2.imp id (fun q => ⟨q.1, q.2.1, hk1 q.2.2⟩)⟩)
                · have c_128 : ¬ (¬ u56 = 0) := of_decide_eq_false c_128
                  refine ml_st (S' := (132, [(0, .ref a), (1, .ref me), (2, .int i12_2), (3, .int i12_3), (4, .int u30)], [.ref a], M47)) rfl rfl rfl ?_
                  refine tg_ref (S' := (135, [(0, .ref a), (1, .ref me), (2, .int i12_2), (3, .int i12_3), (4, .int u30)], [.ref vd], M47)) rfl hS50.1.1 h8 (by decide) rfl rfl ?_
                  refine ml_blk 2 (S' := (138, [(0, .ref a), (1, .ref me), (2, .int i12_2), (3, .int i12_3), (4, .int u30)], [.int i12_2, .int 32, .ref vd], M47)) rfl ?_
                  refine ml_call (a := [.ref vd, .int 32, .int i12_2]) (rest := []) rfl (okc_t rfl rfl rfl hS50.1.1 h12 (by decide)) rfl rfl (tw_Ve_wrong hS50.1.1 h12 (by omega)) (fun v62 M63 h64 => ?_)
                  obtain ⟨rfl, h64⟩ := h64
                  have g66 := h64.2.gf (nin_cons (ykne h8 h12 (by decide)) nin_nil) g51
                  have g67 := h64.2.gf (nin_cons (ykne h13 h12 (by decide)) nin_nil) g52
                  have hS68 := hS50.tr h64 (by simp)
                  show ml _ _ _ (141, [(0, .ref a), (1, .ref me), (2, .int i12_2), (3, .int i12_3), (4, .int u30)], [.int 0], M63) _
                  exact ml_ret rfl (r_z (Or.inl rfl)) (⟨Y_12, ⟨_, rfl, Or.inl rfl⟩, (hT0_12.sf hS68).le (by have hc : nc_12 ≤ 2 ∧ ns_12 ≤ 23 := hi_12.2.2.2.elim (fun q => ⟨by omega, by omega⟩) (fun q => ⟨q.1, q.2.1⟩); omega) (by have hc : nc_12 ≤ 2 ∧ ns_12 ≤ 23 := hi_12.2.2.2.elim (fun q => ⟨by omega, by omega⟩) (fun q => ⟨q.1, q.2.1⟩); omega)⟩)
            · have c_88 : ¬ (¬ u30 = 2) := of_decide_eq_false c_88
              refine ml_blk 3 (S' := (94, [(0, .ref a), (1, .ref me), (2, .int i12_2), (3, .int i12_3), (4, .int u30)], [.int i12_2, .ref me, .ref a], M32)) rfl ?_
              refine ml_call (a := [.ref a, .ref me, .int i12_2]) (rest := []) rfl (okc_t rfl rfl rfl hS37.1.1 h8 (by decide)) rfl rfl (tx_codeHolds hS37.1.1 h8 h9 h10 h11 h12 h13 hs1 g36 ((hj_85 (Decidable.not_not.mp c_88)).1) ((hj_85 (Decidable.not_not.mp c_88)).2) (by omega)) (fun v69 M70 h71 => ?_)
              obtain ⟨Y73, u72, ⟨rfl, z74⟩, hv75, g76, hb77⟩ := h71
              have hA78 := (hT0_12.sf hS37).tr hv75
              have hA79 := (hL_12.sf hS37).tr hv75
              have hS80 : sf g Y73 [a, vd, me] M70 M70 := sf.rf hA78.1.1
              have h81 := (hv75.1.2.1 _ _ h8).1
              have h82 := (hv75.1.2.1 _ _ h9).1
              have h83 := (hv75.1.2.1 _ _ h10).1
              have h84 := (hv75.1.2.1 _ _ h11).1
              have h85 := (hv75.1.2.1 _ _ h12).1
              have h86 := (hv75.1.2.1 _ _ h13).1
              show ml _ _ _ (97, [(0, .ref a), (1, .ref me), (2, .int i12_2), (3, .int i12_3), (4, .int u30)], [.int u72], M70) _
              refine ml_if (S1 := (102, [(0, .ref a), (1, .ref me), (2, .int i12_2), (3, .int i12_3), (4, .int u30)], [], M70)) (S2 := (100, [(0, .ref a), (1, .ref me), (2, .int i12_2), (3, .int i12_3), (4, .int u30)], [], M70)) rfl rfl rfl (fun c_97 => ?_) (fun c_97 => ?_)
              · have c_97 : ¬ u72 = 0 := of_decide_eq_true c_97
                obtain ⟨s87, hs2, hk3⟩ := hb77.resolve_left c_97
                refine ml_blk 2 (S' := (105, [(0, .ref a), (1, .ref me), (2, .int i12_2), (3, .int i12_3), (4, .int u30)], [.int 3, .int u30], M70)) rfl ?_
                refine ml_if2 (S1 := (142, [(0, .ref a), (1, .ref me), (2, .int i12_2), (3, .int i12_3)], [], M70)) (S2 := (108, [(0, .ref a), (1, .ref me), (2, .int i12_2), (3, .int i12_3), (4, .int u30)], [], M70)) rfl rfl rfl (fun c_105 => ?_) (fun c_105 => ?_)
                · have c_105 : ¬ u30 = 3 := of_decide_eq_true c_105
                  refine ml_blk 2 (S' := (144, [(0, .ref a), (1, .ref me), (2, .int i12_2), (3, .int i12_3)], [.int i12_2, .ref a], M70)) rfl ?_
                  refine ml_call (a := [.ref a, .int i12_2]) (rest := []) rfl (okc_t rfl rfl rfl hS80.1.1 h81 (by decide)) rfl rfl (tx_behind hS80.1.1 h81 h82 h83 h84 h85 (by omega)) (fun v88 M89 h90 => ?_)
                  obtain ⟨rfl, h90⟩ := h90
                  rw [h90]
                  show ml _ _ _ (147, [(0, .ref a), (1, .ref me), (2, .int i12_2), (3, .int i12_3)], [.int ((i12_2 + 6) + (sp_u4 n (Y73.2 da) (i12_2 + 2)))], M70) _
                  refine ml_st (S' := (148, [(2, .int ((i12_2 + 6) + (sp_u4 n (Y73.2 da) (i12_2 + 2)))), (0, .ref a), (1, .ref me), (3, .int i12_3)], [], M70)) rfl rfl rfl ?_
                  refine ml_st (S' := (151, [(3, .int (i12_3 + 1)), (2, .int ((i12_2 + 6) + (sp_u4 n (Y73.2 da) (i12_2 + 2)))), (0, .ref a), (1, .ref me)], [], M70)) rfl rfl rfl ?_
                  refine ml_st (S' := (12, [(0, .ref a), (1, .ref me), (2, .int ((i12_2 + 6) + (sp_u4 n (Y73.2 da) (i12_2 + 2)))), (3, .int (i12_3 + 1))], [], M70)) rfl rfl rfl ?_
                  exact ih_12 ((i12_2 + 6) + (sp_u4 n (Y73.2 da) (i12_2 + 2))) (i12_3 + 1) s87 _ _ _ _ (loop_inc (Int32.not_le.mp c_17) hn_12) (hA79.sf hS80) (⟨hs2, g76, (show AW (Y73.2 da) n _ _ from ((hv75.1.2.1 _ _ hda12).2 : Y73.2 da = Y_12.2 da) ▸ haw2), Or.inr (by have hb0 := hk2 (Decidable.not_not.mp c_88); have hc := hi_12.2.2.2.resolve_right (fun q => hb0.1 q.2.2); exact ⟨by omega, by omega, hk3 hb0.2⟩)⟩)
                · have c_105 : ¬ (¬ u30 = 3) := of_decide_eq_false c_105
                  refine ml_blk 2 (S' := (110, [(0, .ref a), (1, .ref me), (2, .int i12_2), (3, .int i12_3), (4, .int u30)], [.ref a, .ref me], M70)) rfl ?_
                  refine tg_ref (S' := (113, [(0, .ref a), (1, .ref me), (2, .int i12_2), (3, .int i12_3), (4, .int u30)], [.ref b, .ref me], M70)) rfl hS80.1.1 h81 (by decide) rfl rfl ?_
                  refine ml_blk 3 (S' := (117, [(0, .ref a), (1, .ref me), (2, .int i12_2), (3, .int i12_3), (4, .int u30)], [.int (i12_2 + 6), .ref b, .ref me], M70)) rfl ?_
                  refine ml_call (a := [.ref b, .int (i12_2 + 6)]) (rest := [.ref me]) rfl (okc_t rfl rfl rfl hS80.1.1 h83 (by decide)) rfl rfl (tq_u2 hS80.1.1 h83 (by omega)) (fun v92 M93 h94 => ?_)
                  obtain ⟨⟨u95, rfl⟩, h94⟩ := h94
                  rw [h94]
                  show ml _ _ _ (120, [(0, .ref a), (1, .ref me), (2, .int i12_2), (3, .int i12_3), (4, .int u30)], [.int u95, .ref me], M70) _
                  refine tp_put rfl hS80.1 h86 (by decide) rfl (⟨_, rfl⟩) rfl rfl (fun M96 hS97 f98 => ?_)
                  have hS99 := hS80.put hS97 f98 (by simp)
                  have g100 := gf_fr (f98.1 a (ykne h81 h86 (by decide))) hs2
                  have g101 := f98.2.1 4 _ (by decide) g76
                  show ml _ _ _ (123, [(0, .ref a), (1, .ref me), (2, .int i12_2), (3, .int i12_3), (4, .int u30)], [], M96) _
                  refine ml_blk 2 (S' := (125, [(0, .ref a), (1, .ref me), (2, .int i12_2), (3, .int i12_3), (4, .int u30)], [.int i12_2, .ref a], M96)) rfl ?_
                  refine ml_call (a := [.ref a, .int i12_2]) (rest := []) rfl (okc_t rfl rfl rfl hS99.1.1 h81 (by decide)) rfl rfl (tw_At_areClasses hS99.1.1 h81 h82 h83 h84 h85 (by omega)) (fun v102 M103 h104 => ?_)
                  obtain ⟨⟨u105, rfl, z106⟩, h104⟩ := h104
                  rw [h104]
                  show ml _ _ _ (128, [(0, .ref a), (1, .ref me), (2, .int i12_2), (3, .int i12_3), (4, .int u30)], [.int u105], M96) _
                  refine ml_if (S1 := (142, [(0, .ref a), (1, .ref me), (2, .int i12_2), (3, .int i12_3)], [], M96)) (S2 := (131, [(0, .ref a), (1, .ref me), (2, .int i12_2), (3, .int i12_3), (4, .int u30)], [], M96)) rfl rfl rfl (fun c_128 => ?_) (fun c_128 => ?_)
                  · have c_128 : ¬ u105 = 0 := of_decide_eq_true c_128
                    refine ml_blk 2 (S' := (144, [(0, .ref a), (1, .ref me), (2, .int i12_2), (3, .int i12_3)], [.int i12_2, .ref a], M96)) rfl ?_
                    refine ml_call (a := [.ref a, .int i12_2]) (rest := []) rfl (okc_t rfl rfl rfl hS99.1.1 h81 (by decide)) rfl rfl (tx_behind hS99.1.1 h81 h82 h83 h84 h85 (by omega)) (fun v107 M108 h109 => ?_)
                    obtain ⟨rfl, h109⟩ := h109
                    rw [h109]
                    show ml _ _ _ (147, [(0, .ref a), (1, .ref me), (2, .int i12_2), (3, .int i12_3)], [.int ((i12_2 + 6) + (sp_u4 n (Y73.2 da) (i12_2 + 2)))], M96) _
                    refine ml_st (S' := (148, [(2, .int ((i12_2 + 6) + (sp_u4 n (Y73.2 da) (i12_2 + 2)))), (0, .ref a), (1, .ref me), (3, .int i12_3)], [], M96)) rfl rfl rfl ?_
                    refine ml_st (S' := (151, [(3, .int (i12_3 + 1)), (2, .int ((i12_2 + 6) + (sp_u4 n (Y73.2 da) (i12_2 + 2)))), (0, .ref a), (1, .ref me)], [], M96)) rfl rfl rfl ?_
                    refine ml_st (S' := (12, [(0, .ref a), (1, .ref me), (2, .int ((i12_2 + 6) + (sp_u4 n (Y73.2 da) (i12_2 + 2)))), (3, .int (i12_3 + 1))], [], M96)) rfl rfl rfl ?_
                    exact ih_12 ((i12_2 + 6) + (sp_u4 n (Y73.2 da) (i12_2 + 2))) (i12_3 + 1) s87 _ _ _ _ (loop_inc (Int32.not_le.mp c_17) hn_12) (hA79.sf hS99) (⟨g100, g101, (show AW (Y73.2 da) n _ _ from ((hv75.1.2.1 _ _ hda12).2 : Y73.2 da = Y_12.2 da) ▸ haw2), Or.inr (by have hb0 := hk2 (Decidable.not_not.mp c_88); have hc := hi_12.2.2.2.resolve_right (fun q => hb0.1 q.2.2); exact ⟨by omega, by omega, hk3 hb0.2⟩)⟩)
                  · have c_128 : ¬ (¬ u105 = 0) := of_decide_eq_false c_128
                    refine ml_st (S' := (132, [(0, .ref a), (1, .ref me), (2, .int i12_2), (3, .int i12_3), (4, .int u30)], [.ref a], M96)) rfl rfl rfl ?_
                    refine tg_ref (S' := (135, [(0, .ref a), (1, .ref me), (2, .int i12_2), (3, .int i12_3), (4, .int u30)], [.ref vd], M96)) rfl hS99.1.1 h81 (by decide) rfl rfl ?_
                    refine ml_blk 2 (S' := (138, [(0, .ref a), (1, .ref me), (2, .int i12_2), (3, .int i12_3), (4, .int u30)], [.int i12_2, .int 32, .ref vd], M96)) rfl ?_
                    refine ml_call (a := [.ref vd, .int 32, .int i12_2]) (rest := []) rfl (okc_t rfl rfl rfl hS99.1.1 h85 (by decide)) rfl rfl (tw_Ve_wrong hS99.1.1 h85 (by omega)) (fun v111 M112 h113 => ?_)
                    obtain ⟨rfl, h113⟩ := h113
                    have g115 := h113.2.gf (nin_cons (ykne h81 h85 (by decide)) nin_nil) g100
                    have g116 := h113.2.gf (nin_cons (ykne h86 h85 (by decide)) nin_nil) g101
                    have hS117 := hS99.tr h113 (by simp)
                    show ml _ _ _ (141, [(0, .ref a), (1, .ref me), (2, .int i12_2), (3, .int i12_3), (4, .int u30)], [.int 0], M112) _
                    exact ml_ret rfl (r_z (Or.inl rfl)) (⟨Y73, ⟨_, rfl, Or.inl rfl⟩, (hA78.sf hS117).le (by have hb0 := hk2 (Decidable.not_not.mp c_88); have hc := hi_12.2.2.2.resolve_right (fun q => hb0.1 q.2.2); omega) (by have hb0 := hk2 (Decidable.not_not.mp c_88); have hc := hi_12.2.2.2.resolve_right (fun q => hb0.1 q.2.2); omega)⟩)
              · have c_97 : ¬ (¬ u72 = 0) := of_decide_eq_false c_97
                refine ml_st (S' := (101, [(0, .ref a), (1, .ref me), (2, .int i12_2), (3, .int i12_3), (4, .int u30)], [.int 0], M70)) rfl rfl rfl ?_
                exact ml_ret rfl (r_z (Or.inl rfl)) (⟨Y73, ⟨_, rfl, Or.inl rfl⟩, (hA78.sf hS80).le (by have hb0 := hk2 (Decidable.not_not.mp c_88); have hc := hi_12.2.2.2.resolve_right (fun q => hb0.1 q.2.2); omega) (by have hb0 := hk2 (Decidable.not_not.mp c_88); have hc := hi_12.2.2.2.resolve_right (fun q => hb0.1 q.2.2); omega)⟩)
          refine ml_if (S1 := (85, [(0, .ref a), (1, .ref me), (2, .int i12_2), (3, .int i12_3), (4, .int u30)], [], M32)) (S2 := (51, [(4, .int u30), (0, .ref a), (1, .ref me), (2, .int i12_2), (3, .int i12_3)], [], M32)) rfl rfl rfl (fun c_48 => ?_) (fun c_48 => ?_)
          · have c_48 : u30 = 0 := of_decide_eq_true c_48
            exact J_85 (fun e => absurd (e.symm.trans c_48) (by decide))
          · have c_48 : ¬ (u30 = 0) := of_decide_eq_false c_48
            refine ml_blk 3 (S' := (55, [(4, .int u30), (0, .ref a), (1, .ref me), (2, .int i12_2), (3, .int i12_3)], [.int i12_2, .int u30, .ref a], M32)) rfl ?_
            refine ml_blk 3 (S' := (59, [(4, .int u30), (0, .ref a), (1, .ref me), (2, .int i12_2), (3, .int i12_3)], [.ref a, .int (i12_2 + 6), .int u30, .ref a], M32)) rfl ?_
            refine ml_st (S' := (60, [(4, .int u30), (0, .ref a), (1, .ref me), (2, .int i12_2), (3, .int i12_3)], [.int i12_2, .ref a, .int (i12_2 + 6), .int u30, .ref a], M32)) rfl rfl rfl ?_
            refine ml_call (a := [.ref a, .int i12_2]) (rest := [.int (i12_2 + 6), .int u30, .ref a]) rfl (okc_t rfl rfl rfl hS37.1.1 h8 (by decide)) rfl rfl (tx_behind hS37.1.1 h8 h9 h10 h11 h12 (by omega)) (fun v118 M119 h120 => ?_)
            obtain ⟨rfl, h120⟩ := h120
            rw [h120]
            show ml _ _ _ (63, [(4, .int u30), (0, .ref a), (1, .ref me), (2, .int i12_2), (3, .int i12_3)], [.int ((i12_2 + 6) + (sp_u4 n (Y_12.2 da) (i12_2 + 2))), .int (i12_2 + 6), .int u30, .ref a], M32) _
            refine ml_call (a := [.ref a, .int u30, .int (i12_2 + 6), .int ((i12_2 + 6) + (sp_u4 n (Y_12.2 da) (i12_2 + 2)))]) (rest := []) rfl (okc_t rfl rfl rfl hS37.1.1 h8 (by decide)) rfl rfl (tx_formEnd hS37.1.1 h8 h9 h10 h11 h12 (by omega)) (fun v122 M123 h124 => ?_)
            obtain ⟨⟨u125, rfl, z126⟩, h124⟩ := h124
            rw [h124]
            show ml _ _ _ (66, [(4, .int u30), (0, .ref a), (1, .ref me), (2, .int i12_2), (3, .int i12_3)], [.int u125], M32) _
            refine ml_blk 2 (S' := (68, [(4, .int u30), (0, .ref a), (1, .ref me), (2, .int i12_2), (3, .int i12_3)], [.int i12_2, .ref a, .int u125], M32)) rfl ?_
            refine ml_call (a := [.ref a, .int i12_2]) (rest := [.int u125]) rfl (okc_t rfl rfl rfl hS37.1.1 h8 (by decide)) rfl rfl (tx_behind hS37.1.1 h8 h9 h10 h11 h12 (by omega)) (fun v127 M128 h129 => ?_)
            obtain ⟨rfl, h129⟩ := h129
            rw [h129]
            show ml _ _ _ (71, [(4, .int u30), (0, .ref a), (1, .ref me), (2, .int i12_2), (3, .int i12_3)], [.int ((i12_2 + 6) + (sp_u4 n (Y_12.2 da) (i12_2 + 2))), .int u125], M32) _
            refine ml_if2 (S1 := (85, [(0, .ref a), (1, .ref me), (2, .int i12_2), (3, .int i12_3), (4, .int u30)], [], M32)) (S2 := (74, [(4, .int u30), (0, .ref a), (1, .ref me), (2, .int i12_2), (3, .int i12_3)], [], M32)) rfl rfl rfl (fun c_71 => ?_) (fun c_71 => ?_)
            · have c_71 : u125 = ((i12_2 + 6) + (sp_u4 n (Y_12.2 da) (i12_2 + 2))) := of_decide_eq_true c_71
              exact J_85 (len_ok hn hst c_71 z126)
            · have c_71 : ¬ (u125 = ((i12_2 + 6) + (sp_u4 n (Y_12.2 da) (i12_2 + 2)))) := of_decide_eq_false c_71
              refine ml_st (S' := (75, [(4, .int u30), (0, .ref a), (1, .ref me), (2, .int i12_2), (3, .int i12_3)], [.ref a], M32)) rfl rfl rfl ?_
              refine tg_ref (S' := (78, [(4, .int u30), (0, .ref a), (1, .ref me), (2, .int i12_2), (3, .int i12_3)], [.ref vd], M32)) rfl hS37.1.1 h8 (by decide) rfl rfl ?_
              refine ml_blk 2 (S' := (81, [(4, .int u30), (0, .ref a), (1, .ref me), (2, .int i12_2), (3, .int i12_3)], [.int i12_2, .int 30, .ref vd], M32)) rfl ?_
              refine ml_call (a := [.ref vd, .int 30, .int i12_2]) (rest := []) rfl (okc_t rfl rfl rfl hS37.1.1 h12 (by decide)) rfl rfl (tw_Ve_wrong hS37.1.1 h12 (by omega)) (fun v131 M132 h133 => ?_)
              obtain ⟨rfl, h133⟩ := h133
              have g135 := h133.2.gf (nin_cons (ykne h8 h12 (by decide)) nin_nil) hs1
              have g136 := h133.2.gf (nin_cons (ykne h13 h12 (by decide)) nin_nil) g36
              have hS137 := hS37.tr h133 (by simp)
              show ml _ _ _ (84, [(4, .int u30), (0, .ref a), (1, .ref me), (2, .int i12_2), (3, .int i12_3)], [.int 0], M132) _
              exact ml_ret rfl (r_z (Or.inl rfl)) (⟨Y_12, ⟨_, rfl, Or.inl rfl⟩, (hT0_12.sf hS137).le (by have hc : nc_12 ≤ 2 ∧ ns_12 ≤ 23 := hi_12.2.2.2.elim (fun q => ⟨by omega, by omega⟩) (fun q => ⟨q.1, q.2.1⟩); omega) (by have hc : nc_12 ≤ 2 ∧ ns_12 ≤ 23 := hi_12.2.2.2.elim (fun q => ⟨by omega, by omega⟩) (fun q => ⟨q.1, q.2.1⟩); omega)⟩)
        · have c_41 : ¬ (¬ u34 = 0) := of_decide_eq_false c_41
          refine ml_st (S' := (45, [(4, .int u30), (0, .ref a), (1, .ref me), (2, .int i12_2), (3, .int i12_3)], [.int 0], M32)) rfl rfl rfl ?_
          exact ml_ret rfl (r_z (Or.inl rfl)) (⟨Y_12, ⟨_, rfl, Or.inl rfl⟩, (hT0_12.sf hS37).le (by have hc : nc_12 ≤ 2 ∧ ns_12 ≤ 23 := hi_12.2.2.2.elim (fun q => ⟨by omega, by omega⟩) (fun q => ⟨q.1, q.2.1⟩); omega) (by have hc : nc_12 ≤ 2 ∧ ns_12 ≤ 23 := hi_12.2.2.2.elim (fun q => ⟨by omega, by omega⟩) (fun q => ⟨q.1, q.2.1⟩); omega)⟩)
  exact L_12 _ ma 0 0 _ _ 0 0 (Nat.le_refl _) (sv.rf hS4.1.1) (⟨f3.2.2.1, g5, by show AW _ _ (cn.toInt - 0).toNat _; rw [Int.sub_zero]; exact haw, Or.inl ⟨rfl, rfl⟩⟩)
set_option maxHeartbeats 2000000 in
theorem tx_methodsHold {g : xe_G} {M : mi_H} {Y : yT} {a c b p vd ac da n : Nat} {pp : List Nat}  (hW : WF g Y M) (hY0 : Y.1 a = some (2, [c, b, p, vd, ac])) (hY1 : Y.1 c = some (3, [b, da, n])) (hY2 : Y.1 b = some (1, [da, n])) (hY3 : Y.1 p = some (7, pp)) (hY4 : Y.1 vd = some (10, [])) (hY5 : Y.1 ac = some (0, [c, b, p, vd])) {d : Nat} (hd : 6 ≤ d) : mt (mT g) d 67 [.ref a] M (fun v M' => ∃ Y', (∃ x : Int32, v = some (.int x) ∧ (x = 0 ∨ x = 1)) ∧ sa g Y M Y' M' n (3 * n)) := by
  obtain ⟨d, rfl⟩ : ∃ e, d = e + 1 := ⟨d - 1, by omega⟩
  have hS : st g Y M M := st.rf hW
  refine mt_in (b := mb_67 g) rfl rfl ?_
  show ml (mT g) d (mb_67 g).2 (0, [(0, .ref a)], [], M) _
  have hA := sa.rf hW
  obtain ⟨vq, hmm, mm, rfl, km, hym⟩ := hW.get (j := 7) hY1 (by decide) rfl
  have hml := hW.mlen hym
  refine ml_st (S' := (1, [(0, .ref a)], [.int 0], M)) rfl rfl rfl ?_
  refine ml_st (S' := (2, [(0, .ref a), (1, .int 0)], [], M)) rfl rfl rfl ?_
  have L_2 : ∀ (n_2 : Nat) (i2_1 : Int32) (Y_2 : yT) (M_2 : mi_H) (nc_2 ns_2 : Nat), (2147483648 - i2_1.toInt).toNat ≤ n_2 → sa g Y M Y_2 M_2 nc_2 ns_2 → (0 ≤ i2_1.toInt ∧ mi_gf M_2 c 3 7 = some (.ref mm) ∧ (nc_2 : Int) ≤ 2 * i2_1.toInt ∧ (ns_2 : Int) ≤ 23 * i2_1.toInt ∧ i2_1.toInt ≤ km) → ml (mT g) d (mb_67 g).2 (2, [(0, .ref a), (1, .int i2_1)], [], M_2) (fun v M' => ∃ Y', (∃ x : Int32, v = some (.int x) ∧ (x = 0 ∨ x = 1)) ∧ sa g Y M Y' M' n (3 * n)) := by
    intro n_2
    induction n_2 with
    | zero => intro i2_1 Y_2 M_2 nc_2 ns_2 hn; exact (loop_zero hn).elim
    | succ n_2 ih_2 =>
      intro i2_1 Y_2 M_2 nc_2 ns_2 hn_2 hL_2 hi_2
      have hT0_2 := (hA.st hS).tr hL_2
      have hS1 := st.rf hT0_2.1
      have h2 := (hL_2.2.1 _ _ hY0).1
      have h3 := (hL_2.2.1 _ _ hY1).1
      have h4 := (hL_2.2.1 _ _ hY2).1
      have h5 := (hL_2.2.1 _ _ hY3).1
      have h6 := (hL_2.2.1 _ _ hY4).1
      have h7 := (hL_2.2.1 _ _ hY5).1
      have h8 := (hL_2.2.1 _ _ hym).1
      refine ml_blk 2 (S' := (4, [(0, .ref a), (1, .int i2_1)], [.ref a, .int i2_1], M_2)) rfl ?_
      refine tg_ref (S' := (7, [(0, .ref a), (1, .int i2_1)], [.ref c, .int i2_1], M_2)) rfl hS1.1 h2 (by decide) rfl rfl ?_
      refine ml_get (S' := (10, [(0, .ref a), (1, .int i2_1)], [.ref mm, .int i2_1], M_2)) rfl hi_2.2.1 rfl ?_
      refine tl_mem (S' := (11, [(0, .ref a), (1, .int i2_1)], [.int (nI km), .int i2_1], M_2)) rfl hS1.1 h8 rfl ?_
      refine ml_if2 (S1 := (67, [(0, .ref a), (1, .int i2_1)], [], M_2)) (S2 := (14, [(0, .ref a), (1, .int i2_1)], [], M_2)) rfl rfl rfl (fun c_11 => ?_) (fun c_11 => ?_)
      · have c_11 : (nI km) ≤ i2_1 := of_decide_eq_true c_11
        refine ml_st (S' := (68, [(0, .ref a), (1, .int i2_1)], [.int 1], M_2)) rfl rfl rfl ?_
        exact ml_ret rfl (r_z (Or.inr rfl)) (⟨Y_2, ⟨_, rfl, Or.inr rfl⟩, (hT0_2.st hS1).le (by have h1 := hi_2.2.2.1; have h2 := hi_2.2.2.2.1; have h3 := hi_2.2.2.2.2; have h4 := hml.2; omega) (by have h1 := hi_2.2.2.1; have h2 := hi_2.2.2.2.1; have h3 := hi_2.2.2.2.2; have h4 := hml.2; omega)⟩)
      · have c_11 : ¬ ((nI km) ≤ i2_1) := of_decide_eq_false c_11
        refine ml_st (S' := (15, [(0, .ref a), (1, .int i2_1)], [.ref a], M_2)) rfl rfl rfl ?_
        refine tg_ref (S' := (18, [(0, .ref a), (1, .int i2_1)], [.ref c], M_2)) rfl hS1.1 h2 (by decide) rfl rfl ?_
        refine ml_get (S' := (21, [(0, .ref a), (1, .int i2_1)], [.ref mm], M_2)) rfl hi_2.2.1 rfl ?_
        refine ml_st (S' := (22, [(0, .ref a), (1, .int i2_1)], [.int i2_1, .ref mm], M_2)) rfl rfl rfl ?_
        refine ta_mem rfl hS1.1 h8 (vin_nI hi_2.1 c_11) ?_ (fun b9 h10 => ?_)
        · show ml _ _ _ (23, [(0, .ref a), (1, .int i2_1)], [.null], M_2) _
          refine ml_st (S' := (24, [(2, .null), (0, .ref a), (1, .int i2_1)], [], M_2)) rfl rfl rfl ?_
          refine ml_blk 2 (S' := (28, [(2, .null), (0, .ref a), (1, .int i2_1)], [], M_2)) rfl ?_
          refine ml_st (S' := (61, [(0, .ref a), (1, .int i2_1)], [], M_2)) rfl rfl rfl ?_
          refine ml_st (S' := (64, [(1, .int (i2_1 + 1)), (0, .ref a)], [], M_2)) rfl rfl rfl ?_
          refine ml_st (S' := (2, [(0, .ref a), (1, .int (i2_1 + 1))], [], M_2)) rfl rfl rfl ?_
          exact ih_2 (i2_1 + 1) _ _ _ _ (loop_inc (Int32.not_le.mp c_11) hn_2) (hL_2.st hS1) (⟨by rw [inc_lt (Int32.not_le.mp c_11)]; have := hi_2.1; omega, hi_2.2.1, by rw [inc_lt (Int32.not_le.mp c_11)]; have := hi_2.2.2.1; omega, by rw [inc_lt (Int32.not_le.mp c_11)]; have := hi_2.2.2.2.1; omega, by rw [inc_lt (Int32.not_le.mp c_11)]; have := i_nle c_11; rw [nI_val hml.1] at this; omega⟩)
        · skip
          show ml _ _ _ (23, [(0, .ref a), (1, .int i2_1)], [.ref b9], M_2) _
          refine ml_st (S' := (24, [(2, .ref b9), (0, .ref a), (1, .int i2_1)], [], M_2)) rfl rfl rfl ?_
          refine ml_blk 2 (S' := (31, [(2, .ref b9), (0, .ref a), (1, .int i2_1)], [], M_2)) rfl ?_
          refine ml_blk 3 (S' := (34, [(2, .ref b9), (0, .ref a), (1, .int i2_1)], [.int i2_1, .ref b9, .ref a], M_2)) rfl ?_
          refine ml_call (a := [.ref a, .ref b9, .int i2_1]) (rest := []) rfl (okc_t rfl rfl rfl hS1.1 h2 (by decide)) rfl rfl (tw_Cl_methodHolds hS1.1 h2 h3 h4 h5 h6 h7 h10 (by omega)) (fun v11 M12 h13 => ?_)
          obtain ⟨⟨u14, rfl, z15⟩, h13⟩ := h13
          have g16 := h13.2.gf (nin_cons (ykne h3 h10 (by decide)) (nin_cons (ykne h3 h6 (by decide)) nin_nil)) hi_2.2.1
          have hS17 := hS1.tr h13.1
          show ml _ _ _ (37, [(2, .ref b9), (0, .ref a), (1, .int i2_1)], [.int u14], M12) _
          refine ml_if (S1 := (59, [], [], M12)) (S2 := (40, [(2, .ref b9), (0, .ref a), (1, .int i2_1)], [], M12)) rfl rfl rfl (fun c_37 => ?_) (fun c_37 => ?_)
          · have c_37 : u14 = 0 := of_decide_eq_true c_37
            refine ml_st (S' := (60, [], [.int 0], M12)) rfl rfl rfl ?_
            exact ml_ret rfl (r_z (Or.inl rfl)) (⟨Y_2, ⟨_, rfl, Or.inl rfl⟩, (hT0_2.st hS17).le (by have h1 := hi_2.2.2.1; have h2 := hi_2.2.2.2.1; have h3 := hi_2.2.2.2.2; have h4 := hml.2; have h5 := i_nle c_11; rw [nI_val hml.1] at h5; omega) (by have h1 := hi_2.2.2.1; have h2 := hi_2.2.2.2.1; have h3 := hi_2.2.2.2.2; have h4 := hml.2; have h5 := i_nle c_11; rw [nI_val hml.1] at h5; omega)⟩)
          · have c_37 : ¬ (u14 = 0) := of_decide_eq_false c_37
            refine ml_st (S' := (41, [(2, .ref b9), (0, .ref a), (1, .int i2_1)], [.ref a], M12)) rfl rfl rfl ?_
            refine tg_ref (S' := (44, [(2, .ref b9), (0, .ref a), (1, .int i2_1)], [.ref ac], M12)) rfl hS17.1 h2 (by decide) rfl rfl ?_
            refine ml_st (S' := (45, [(2, .ref b9), (0, .ref a), (1, .int i2_1)], [.ref b9, .ref ac], M12)) rfl rfl rfl ?_
            refine ml_call (a := [.ref ac, .ref b9]) (rest := []) rfl (okc_t rfl rfl rfl hS17.1 h7 (by decide)) rfl rfl (tx_ofMethod hS17.1 h7 h3 h4 h5 h6 h10 (by omega)) (fun v18 M19 h20 => ?_)
            obtain ⟨Y22, ⟨u21, rfl, z24⟩, hv23⟩ := h20
            have g25 := gf_fr (hv23.2 c (nin_cons (ykne h3 h7 (by decide)) (nin_cons (ykne h3 h6 (by decide)) (nin_cons (ykne h3 h10 (by decide)) nin_nil))) (hS17.1.2.1 _ _ h3)) g16
            have hA26 := (hT0_2.st hS17).tr hv23.1
            have hA27 := (hL_2.st hS17).tr hv23.1
            have hS28 := st.rf hA26.1
            have h29 := (hv23.1.2.1 _ _ h2).1
            have h30 := (hv23.1.2.1 _ _ h3).1
            have h31 := (hv23.1.2.1 _ _ h4).1
            have h32 := (hv23.1.2.1 _ _ h5).1
            have h33 := (hv23.1.2.1 _ _ h6).1
            have h34 := (hv23.1.2.1 _ _ h7).1
            have h35 := (hv23.1.2.1 _ _ h8).1
            have h36 := (hv23.1.2.1 _ _ h10).1
            show ml _ _ _ (48, [(2, .ref b9), (0, .ref a), (1, .int i2_1)], [.int u21], M19) _
            refine ml_if (S1 := (59, [], [], M19)) (S2 := (51, [(2, .ref b9), (0, .ref a), (1, .int i2_1)], [], M19)) rfl rfl rfl (fun c_48 => ?_) (fun c_48 => ?_)
            · have c_48 : u21 = 0 := of_decide_eq_true c_48
              refine ml_st (S' := (60, [], [.int 0], M19)) rfl rfl rfl ?_
              exact ml_ret rfl (r_z (Or.inl rfl)) (⟨Y22, ⟨_, rfl, Or.inl rfl⟩, (hA26.st hS28).le (by have h1 := hi_2.2.2.1; have h2 := hi_2.2.2.2.1; have h3 := hi_2.2.2.2.2; have h4 := hml.2; have h5 := i_nle c_11; rw [nI_val hml.1] at h5; omega) (by have h1 := hi_2.2.2.1; have h2 := hi_2.2.2.2.1; have h3 := hi_2.2.2.2.2; have h4 := hml.2; have h5 := i_nle c_11; rw [nI_val hml.1] at h5; omega)⟩)
            · have c_48 : ¬ (u21 = 0) := of_decide_eq_false c_48
              refine ml_blk 2 (S' := (53, [(2, .ref b9), (0, .ref a), (1, .int i2_1)], [.ref b9, .ref a], M19)) rfl ?_
              refine ml_call (a := [.ref a, .ref b9]) (rest := []) rfl (okc_t rfl rfl rfl hS28.1 h29 (by decide)) rfl rfl (tw_Cl_codeIsDue hS28.1 h29 h30 h31 h32 h33 h34 h36 (by omega)) (fun v37 M38 h39 => ?_)
              obtain ⟨⟨u40, rfl, z41⟩, h39⟩ := h39
              have g42 := h39.2.gf (nin_cons (ykne h30 h33 (by decide)) nin_nil) g25
              have hS43 := hS28.tr h39.1
              show ml _ _ _ (56, [(2, .ref b9), (0, .ref a), (1, .int i2_1)], [.int u40], M38) _
              refine ml_if (S1 := (61, [(0, .ref a), (1, .int i2_1)], [], M38)) (S2 := (59, [], [], M38)) rfl rfl rfl (fun c_56 => ?_) (fun c_56 => ?_)
              · have c_56 : ¬ u40 = 0 := of_decide_eq_true c_56
                refine ml_st (S' := (64, [(1, .int (i2_1 + 1)), (0, .ref a)], [], M38)) rfl rfl rfl ?_
                refine ml_st (S' := (2, [(0, .ref a), (1, .int (i2_1 + 1))], [], M38)) rfl rfl rfl ?_
                exact ih_2 (i2_1 + 1) _ _ _ _ (loop_inc (Int32.not_le.mp c_11) hn_2) (hA27.st hS43) (⟨by rw [inc_lt (Int32.not_le.mp c_11)]; have := hi_2.1; omega, g42, by rw [inc_lt (Int32.not_le.mp c_11)]; have := hi_2.2.2.1; omega, by rw [inc_lt (Int32.not_le.mp c_11)]; have := hi_2.2.2.2.1; omega, by rw [inc_lt (Int32.not_le.mp c_11)]; have := i_nle c_11; rw [nI_val hml.1] at this; omega⟩)
              · have c_56 : ¬ (¬ u40 = 0) := of_decide_eq_false c_56
                refine ml_st (S' := (60, [], [.int 0], M38)) rfl rfl rfl ?_
                exact ml_ret rfl (r_z (Or.inl rfl)) (⟨Y22, ⟨_, rfl, Or.inl rfl⟩, (hA26.st hS43).le (by have h1 := hi_2.2.2.1; have h2 := hi_2.2.2.2.1; have h3 := hi_2.2.2.2.2; have h4 := hml.2; have h5 := i_nle c_11; rw [nI_val hml.1] at h5; omega) (by have h1 := hi_2.2.2.1; have h2 := hi_2.2.2.2.1; have h3 := hi_2.2.2.2.2; have h4 := hml.2; have h5 := i_nle c_11; rw [nI_val hml.1] at h5; omega)⟩)
  exact L_2 _ 0 _ _ 0 0 (Nat.le_refl _) (sa.rf hS.1) (⟨by decide, hmm, by decide, by decide, by show (0 : Int) ≤ _; omega⟩)
