/-! items are taken (laid by wip/p2/c49.py) -/
theorem goesOn_lt {n : Nat} {f : Nat → Int32} {a e : Int32} (h : ¬ sp_goesOn n f a e = 0) : a < e := by
  unfold sp_goesOn at h
  repeat' (first | assumption | exact Int32.not_le.mp (by assumption) | exact absurd rfl h | split at h)

set_option maxHeartbeats 2000000 in
theorem tr_takes {g : xe_G} {M : mi_H} {Y : yT} {r c b vd n da : Nat} {x1 : Int32} {a0 : Int32} (hW : WF g Y M) (hY0 : Y.1 r = some (9, [c, b, vd, n])) (hY1 : Y.1 c = some (3, [b, da, n])) (hY2 : Y.1 b = some (1, [da, n])) (hY3 : Y.1 vd = some (10, [])) (hr3 : mi_gf M r 9 3 = some (.int a0)) (hx : 0 ≤ x1.toInt) {d : Nat} (hd : 2 ≤ d) : mt (mT g) d 159 [.ref r, .int x1] M (qT g Y r vd da n a0 x1 M) := by
  obtain ⟨d, rfl⟩ : ∃ e, d = e + 1 := ⟨d - 1, by omega⟩
  have hS : sf g Y [r, vd] M M := sf.rf hW
  refine mt_in (b := mb_159 g) rfl rfl ?_
  show ml (mT g) d (mb_159 g).2 (0, [(0, .ref r), (1, .int x1)], [], M) _
  obtain ⟨h0, h1⟩ := hW.rdb hY0 hr3
  have hn := hW.bn hY2
  refine ml_blk 2 (S' := (2, [(0, .ref r), (1, .int x1)], [.ref r, .int x1], M)) rfl ?_
  refine tg_ref (S' := (5, [(0, .ref r), (1, .int x1)], [.ref b, .int x1], M)) rfl hS.1.1 hY0 (by decide) rfl rfl ?_
  refine ml_call (a := [.ref b]) (rest := [.int x1]) rfl (okc_t rfl rfl rfl hS.1.1 hY2 (by decide)) rfl rfl (ct_size (hS.1.1.bytes hY2).1 (by omega)) (fun v1 M2 h3 => ?_)
  obtain ⟨rfl, h3⟩ := h3
  rw [h3]
  show ml _ _ _ (8, [(0, .ref r), (1, .int x1)], [.int (nI n), .int x1], M) _
  refine ml_st (S' := (9, [(0, .ref r), (1, .int x1)], [.ref r, .int (nI n), .int x1], M)) rfl rfl rfl ?_
  refine ml_get (S' := (12, [(0, .ref r), (1, .int x1)], [.int a0, .int (nI n), .int x1], M)) rfl hr3 rfl ?_
  refine ml_st (S' := (13, [(0, .ref r), (1, .int x1)], [.int ((nI n) - a0), .int x1], M)) rfl rfl rfl ?_
  refine ml_if2 (S1 := (29, [(0, .ref r), (1, .int x1)], [], M)) (S2 := (16, [(0, .ref r), (1, .int x1)], [], M)) rfl rfl rfl (fun c_13 => ?_) (fun c_13 => ?_)
  · have c_13 : x1 ≤ ((nI n) - a0) := of_decide_eq_true c_13
    refine ml_blk 2 (S' := (31, [(0, .ref r), (1, .int x1)], [.int 1, .int x1], M)) rfl ?_
    refine ml_if2 (S1 := (52, [(0, .ref r), (1, .int x1)], [], M)) (S2 := (34, [(0, .ref r), (1, .int x1)], [], M)) rfl rfl rfl (fun c_31 => ?_) (fun c_31 => ?_)
    · have c_31 : ¬ x1 = 1 := of_decide_eq_true c_31
      refine ml_blk 3 (S' := (55, [(0, .ref r), (1, .int x1)], [.int 2, .int x1, .ref r], M)) rfl ?_
      refine ml_if2 (S1 := (72, [(0, .ref r), (1, .int x1)], [.ref r], M)) (S2 := (58, [(0, .ref r), (1, .int x1)], [.ref r], M)) rfl rfl rfl (fun c_55 => ?_) (fun c_55 => ?_)
      · have c_55 : ¬ x1 = 2 := of_decide_eq_true c_55
        refine ml_st (S' := (73, [(0, .ref r), (1, .int x1)], [.ref r, .ref r], M)) rfl rfl rfl ?_
        refine tg_ref (S' := (76, [(0, .ref r), (1, .int x1)], [.ref b, .ref r], M)) rfl hS.1.1 hY0 (by decide) rfl rfl ?_
        refine ml_st (S' := (77, [(0, .ref r), (1, .int x1)], [.ref r, .ref b, .ref r], M)) rfl rfl rfl ?_
        refine ml_get (S' := (80, [(0, .ref r), (1, .int x1)], [.int a0, .ref b, .ref r], M)) rfl hr3 rfl ?_
        refine ml_call (a := [.ref b, .int a0]) (rest := [.ref r]) rfl (okc_t rfl rfl rfl hS.1.1 hY2 (by decide)) rfl rfl (ct_u4 (hS.1.1.bytes hY2).1 (by omega)) (fun v4 M5 h6 => ?_)
        obtain ⟨rfl, h6⟩ := h6
        rw [h6]
        show ml _ _ _ (83, [(0, .ref r), (1, .int x1)], [.int (sp_u4 n (Y.2 da) a0), .ref r], M) _
        refine tp_put rfl hS.1 hY0 (by decide) rfl (⟨_, rfl⟩) rfl rfl (fun M7 hS8 f9 => ?_)
        have hS10 := hS.put hS8 f9 (by simp)
        have g11 := f9.2.1 3 _ (by decide) hr3
        show ml _ _ _ (86, [(0, .ref r), (1, .int x1)], [], M7) _
        refine ml_blk 2 (S' := (88, [(0, .ref r), (1, .int x1)], [.ref r, .ref r], M7)) rfl ?_
        refine ml_get (S' := (91, [(0, .ref r), (1, .int x1)], [.int a0, .ref r], M7)) rfl g11 rfl ?_
        refine ml_blk 2 (S' := (93, [(0, .ref r), (1, .int x1)], [.int (a0 + x1), .ref r], M7)) rfl ?_
        refine tp_putx rfl hS10.1 hY0 (by decide) rfl (⟨_, rfl⟩) rfl (fun l hl _ => xtr_at hl (by rw [(le_room hn h0 h1 hx c_13).2]; omega) (by rw [(le_room hn h0 h1 hx c_13).2]; exact (le_room hn h0 h1 hx c_13).1)) (fun M12 hS13 f14 => ?_)
        have hS15 := hS10.put hS13 f14 (by simp)
        have g16 := f14.2.1 4 _ (by decide) f9.2.2.1
        show ml _ _ _ (96, [(0, .ref r), (1, .int x1)], [], M12) _
        refine ml_st (S' := (97, [(0, .ref r), (1, .int x1)], [.int 1], M12)) rfl rfl rfl ?_
        exact ml_ret rfl (r_z (Or.inr rfl)) (⟨⟨_, rfl, Or.inr ⟨rfl, (le_room hn h0 h1 hx c_13).1, f14.2.2.1, by rw [ix]; first | (rw [if_pos (Decidable.not_not.mp c_31)]; exact g16) | (rw [if_neg c_31, if_pos (Decidable.not_not.mp c_55)]; exact g16) | (rw [if_neg c_31, if_neg c_55]; exact g16)⟩⟩, hS15⟩)
      · have c_55 : ¬ (¬ x1 = 2) := of_decide_eq_false c_55
        refine ml_st (S' := (59, [(0, .ref r), (1, .int x1)], [.ref r, .ref r], M)) rfl rfl rfl ?_
        refine tg_ref (S' := (62, [(0, .ref r), (1, .int x1)], [.ref b, .ref r], M)) rfl hS.1.1 hY0 (by decide) rfl rfl ?_
        refine ml_st (S' := (63, [(0, .ref r), (1, .int x1)], [.ref r, .ref b, .ref r], M)) rfl rfl rfl ?_
        refine ml_get (S' := (66, [(0, .ref r), (1, .int x1)], [.int a0, .ref b, .ref r], M)) rfl hr3 rfl ?_
        refine ml_call (a := [.ref b, .int a0]) (rest := [.ref r]) rfl (okc_t rfl rfl rfl hS.1.1 hY2 (by decide)) rfl rfl (ct_u2 (hS.1.1.bytes hY2).1 (by omega)) (fun v17 M18 h19 => ?_)
        obtain ⟨rfl, h19⟩ := h19
        rw [h19]
        show ml _ _ _ (69, [(0, .ref r), (1, .int x1)], [.int (sp_u2 n (Y.2 da) a0), .ref r], M) _
        refine ml_st (S' := (83, [(0, .ref r), (1, .int x1)], [.int (sp_u2 n (Y.2 da) a0), .ref r], M)) rfl rfl rfl ?_
        refine tp_put rfl hS.1 hY0 (by decide) rfl (⟨_, rfl⟩) rfl rfl (fun M20 hS21 f22 => ?_)
        have hS23 := hS.put hS21 f22 (by simp)
        have g24 := f22.2.1 3 _ (by decide) hr3
        show ml _ _ _ (86, [(0, .ref r), (1, .int x1)], [], M20) _
        refine ml_blk 2 (S' := (88, [(0, .ref r), (1, .int x1)], [.ref r, .ref r], M20)) rfl ?_
        refine ml_get (S' := (91, [(0, .ref r), (1, .int x1)], [.int a0, .ref r], M20)) rfl g24 rfl ?_
        refine ml_blk 2 (S' := (93, [(0, .ref r), (1, .int x1)], [.int (a0 + x1), .ref r], M20)) rfl ?_
        refine tp_putx rfl hS23.1 hY0 (by decide) rfl (⟨_, rfl⟩) rfl (fun l hl _ => xtr_at hl (by rw [(le_room hn h0 h1 hx c_13).2]; omega) (by rw [(le_room hn h0 h1 hx c_13).2]; exact (le_room hn h0 h1 hx c_13).1)) (fun M25 hS26 f27 => ?_)
        have hS28 := hS23.put hS26 f27 (by simp)
        have g29 := f27.2.1 4 _ (by decide) f22.2.2.1
        show ml _ _ _ (96, [(0, .ref r), (1, .int x1)], [], M25) _
        refine ml_st (S' := (97, [(0, .ref r), (1, .int x1)], [.int 1], M25)) rfl rfl rfl ?_
        exact ml_ret rfl (r_z (Or.inr rfl)) (⟨⟨_, rfl, Or.inr ⟨rfl, (le_room hn h0 h1 hx c_13).1, f27.2.2.1, by rw [ix]; first | (rw [if_pos (Decidable.not_not.mp c_31)]; exact g29) | (rw [if_neg c_31, if_pos (Decidable.not_not.mp c_55)]; exact g29) | (rw [if_neg c_31, if_neg c_55]; exact g29)⟩⟩, hS28⟩)
    · have c_31 : ¬ (¬ x1 = 1) := of_decide_eq_false c_31
      refine ml_blk 2 (S' := (36, [(0, .ref r), (1, .int x1)], [.ref r, .ref r], M)) rfl ?_
      refine tg_ref (S' := (39, [(0, .ref r), (1, .int x1)], [.ref b, .ref r], M)) rfl hS.1.1 hY0 (by decide) rfl rfl ?_
      refine ml_st (S' := (40, [(0, .ref r), (1, .int x1)], [.ref r, .ref b, .ref r], M)) rfl rfl rfl ?_
      refine ml_get (S' := (43, [(0, .ref r), (1, .int x1)], [.int a0, .ref b, .ref r], M)) rfl hr3 rfl ?_
      refine ml_call (a := [.ref b, .int a0]) (rest := [.ref r]) rfl (okc_t rfl rfl rfl hS.1.1 hY2 (by decide)) rfl rfl (ct_u1 (hS.1.1.bytes hY2).1 (by omega)) (fun v30 M31 h32 => ?_)
      obtain ⟨rfl, h32⟩ := h32
      rw [h32]
      show ml _ _ _ (46, [(0, .ref r), (1, .int x1)], [.int (sp_u1 n (Y.2 da) a0), .ref r], M) _
      refine tp_put rfl hS.1 hY0 (by decide) rfl (⟨_, rfl⟩) rfl rfl (fun M33 hS34 f35 => ?_)
      have hS36 := hS.put hS34 f35 (by simp)
      have g37 := f35.2.1 3 _ (by decide) hr3
      show ml _ _ _ (49, [(0, .ref r), (1, .int x1)], [], M33) _
      refine ml_st (S' := (86, [(0, .ref r), (1, .int x1)], [], M33)) rfl rfl rfl ?_
      refine ml_blk 2 (S' := (88, [(0, .ref r), (1, .int x1)], [.ref r, .ref r], M33)) rfl ?_
      refine ml_get (S' := (91, [(0, .ref r), (1, .int x1)], [.int a0, .ref r], M33)) rfl g37 rfl ?_
      refine ml_blk 2 (S' := (93, [(0, .ref r), (1, .int x1)], [.int (a0 + x1), .ref r], M33)) rfl ?_
      refine tp_putx rfl hS36.1 hY0 (by decide) rfl (⟨_, rfl⟩) rfl (fun l hl _ => xtr_at hl (by rw [(le_room hn h0 h1 hx c_13).2]; omega) (by rw [(le_room hn h0 h1 hx c_13).2]; exact (le_room hn h0 h1 hx c_13).1)) (fun M38 hS39 f40 => ?_)
      have hS41 := hS36.put hS39 f40 (by simp)
      have g42 := f40.2.1 4 _ (by decide) f35.2.2.1
      show ml _ _ _ (96, [(0, .ref r), (1, .int x1)], [], M38) _
      refine ml_st (S' := (97, [(0, .ref r), (1, .int x1)], [.int 1], M38)) rfl rfl rfl ?_
      exact ml_ret rfl (r_z (Or.inr rfl)) (⟨⟨_, rfl, Or.inr ⟨rfl, (le_room hn h0 h1 hx c_13).1, f40.2.2.1, by rw [ix]; first | (rw [if_pos (Decidable.not_not.mp c_31)]; exact g42) | (rw [if_neg c_31, if_pos (Decidable.not_not.mp c_55)]; exact g42) | (rw [if_neg c_31, if_neg c_55]; exact g42)⟩⟩, hS41⟩)
  · have c_13 : ¬ (x1 ≤ ((nI n) - a0)) := of_decide_eq_false c_13
    refine ml_st (S' := (17, [(0, .ref r), (1, .int x1)], [.ref r], M)) rfl rfl rfl ?_
    refine tg_ref (S' := (20, [(0, .ref r), (1, .int x1)], [.ref vd], M)) rfl hS.1.1 hY0 (by decide) rfl rfl ?_
    refine ml_blk 2 (S' := (22, [(0, .ref r), (1, .int x1)], [.ref r, .int 1, .ref vd], M)) rfl ?_
    refine ml_get (S' := (25, [(0, .ref r), (1, .int x1)], [.int a0, .int 1, .ref vd], M)) rfl hr3 rfl ?_
    refine ml_call (a := [.ref vd, .int 1, .int a0]) (rest := []) rfl (okc_t rfl rfl rfl hS.1.1 hY3 (by decide)) rfl rfl (tw_Ve_wrong hS.1.1 hY3 (by omega)) (fun v43 M44 h45 => ?_)
    obtain ⟨rfl, h45⟩ := h45
    have g47 := h45.2.gf (nin_cons (ykne hY0 hY3 (by decide)) nin_nil) hr3
    have hS48 := hS.tr h45 (by simp)
    show ml _ _ _ (28, [(0, .ref r), (1, .int x1)], [.int 0], M44) _
    exact ml_ret rfl (r_z (Or.inl rfl)) (⟨⟨_, rfl, Or.inl rfl⟩, hS48⟩)
set_option maxHeartbeats 2000000 in
theorem tr_takesHead {g : xe_G} {M : mi_H} {Y : yT} {r c b vd n da : Nat}  (hW : WF g Y M) (hY0 : Y.1 r = some (9, [c, b, vd, n])) (hY1 : Y.1 c = some (3, [b, da, n])) (hY2 : Y.1 b = some (1, [da, n])) (hY3 : Y.1 vd = some (10, [])) {d : Nat} (hd : 3 ≤ d) : mt (mT g) d 165 [.ref r] M (qZ g Y M) := by
  obtain ⟨d, rfl⟩ : ∃ e, d = e + 1 := ⟨d - 1, by omega⟩
  have hS : st g Y M M := st.rf hW
  refine mt_in (b := mb_165 g) rfl rfl ?_
  show ml (mT g) d (mb_165 g).2 (0, [(0, .ref r)], [], M) _
  refine ml_blk 2 (S' := (2, [(0, .ref r)], [.int 4, .ref r], M)) rfl ?_
  obtain ⟨u1, g2, -⟩ := hS.1.rd hY0
  refine ml_call (a := [.ref r, .int 4]) (rest := []) rfl (okc_t rfl rfl rfl hS.1 hY0 (by decide)) rfl rfl (tr_takes hS.1 hY0 hY1 hY2 hY3 g2 (by decide) (by omega)) (fun v3 M4 h5 => ?_)
  obtain ⟨⟨u6, rfl, z7⟩, h5⟩ := h5
  have hS8 := hS.tr h5.1
  show ml _ _ _ (5, [(0, .ref r)], [.int u6], M4) _
  refine ml_if (S1 := (10, [(0, .ref r)], [], M4)) (S2 := (8, [(0, .ref r)], [], M4)) rfl rfl rfl (fun c_5 => ?_) (fun c_5 => ?_)
  · have c_5 : ¬ u6 = 0 := of_decide_eq_true c_5
    refine ml_st (S' := (11, [(0, .ref r)], [.ref r], M4)) rfl rfl rfl ?_
    refine tg_int rfl hS8.1 hY0 (by decide) rfl (fun u9 g10 => ?_)
    show ml _ _ _ (14, [(0, .ref r)], [.int u9], M4) _
    refine ml_st (S' := (16, [(0, .ref r)], [.int (-889275714), .int u9], M4)) rfl rfl rfl ?_
    refine ml_if2 (S1 := (29, [(0, .ref r)], [], M4)) (S2 := (19, [(0, .ref r)], [], M4)) rfl rfl rfl (fun c_16 => ?_) (fun c_16 => ?_)
    · have c_16 : u9 = (-889275714) := of_decide_eq_true c_16
      refine ml_blk 2 (S' := (31, [(0, .ref r)], [.int 2, .ref r], M4)) rfl ?_
      obtain ⟨u11, g12, -⟩ := hS8.1.rd hY0
      refine ml_call (a := [.ref r, .int 2]) (rest := []) rfl (okc_t rfl rfl rfl hS8.1 hY0 (by decide)) rfl rfl (tr_takes hS8.1 hY0 hY1 hY2 hY3 g12 (by decide) (by omega)) (fun v13 M14 h15 => ?_)
      obtain ⟨⟨u16, rfl, z17⟩, h15⟩ := h15
      have hS18 := hS8.tr h15.1
      show ml _ _ _ (34, [(0, .ref r)], [.int u16], M14) _
      refine ml_if (S1 := (39, [(0, .ref r)], [], M14)) (S2 := (37, [(0, .ref r)], [], M14)) rfl rfl rfl (fun c_34 => ?_) (fun c_34 => ?_)
      · have c_34 : ¬ u16 = 0 := of_decide_eq_true c_34
        refine ml_st (S' := (40, [(0, .ref r)], [.ref r], M14)) rfl rfl rfl ?_
        refine tg_ref (S' := (43, [(0, .ref r)], [.ref c], M14)) rfl hS18.1 hY0 (by decide) rfl rfl ?_
        refine ml_st (S' := (44, [(0, .ref r)], [.ref r, .ref c], M14)) rfl rfl rfl ?_
        refine tg_int rfl hS18.1 hY0 (by decide) rfl (fun u19 g20 => ?_)
        show ml _ _ _ (47, [(0, .ref r)], [.int u19, .ref c], M14) _
        refine tp_put rfl hS18 hY1 (by decide) rfl (⟨_, rfl⟩) rfl rfl (fun M21 hS22 f23 => ?_)
        show ml _ _ _ (50, [(0, .ref r)], [], M21) _
        refine ml_blk 2 (S' := (52, [(0, .ref r)], [.int 2, .ref r], M21)) rfl ?_
        obtain ⟨u24, g25, -⟩ := hS22.1.rd hY0
        refine ml_call (a := [.ref r, .int 2]) (rest := []) rfl (okc_t rfl rfl rfl hS22.1 hY0 (by decide)) rfl rfl (tr_takes hS22.1 hY0 hY1 hY2 hY3 g25 (by decide) (by omega)) (fun v26 M27 h28 => ?_)
        obtain ⟨⟨u29, rfl, z30⟩, h28⟩ := h28
        have hS31 := hS22.tr h28.1
        show ml _ _ _ (55, [(0, .ref r)], [.int u29], M27) _
        refine ml_if (S1 := (60, [(0, .ref r)], [], M27)) (S2 := (58, [(0, .ref r)], [], M27)) rfl rfl rfl (fun c_55 => ?_) (fun c_55 => ?_)
        · have c_55 : ¬ u29 = 0 := of_decide_eq_true c_55
          refine ml_st (S' := (61, [(0, .ref r)], [.ref r], M27)) rfl rfl rfl ?_
          refine tg_ref (S' := (64, [(0, .ref r)], [.ref c], M27)) rfl hS31.1 hY0 (by decide) rfl rfl ?_
          refine ml_st (S' := (65, [(0, .ref r)], [.ref r, .ref c], M27)) rfl rfl rfl ?_
          refine tg_int rfl hS31.1 hY0 (by decide) rfl (fun u32 g33 => ?_)
          show ml _ _ _ (68, [(0, .ref r)], [.int u32, .ref c], M27) _
          refine tp_put rfl hS31 hY1 (by decide) rfl (⟨_, rfl⟩) rfl rfl (fun M34 hS35 f36 => ?_)
          show ml _ _ _ (71, [(0, .ref r)], [], M34) _
          refine ml_st (S' := (72, [(0, .ref r)], [.ref r], M34)) rfl rfl rfl ?_
          refine tg_int rfl hS35.1 hY0 (by decide) rfl (fun u37 g38 => ?_)
          show ml _ _ _ (75, [(0, .ref r)], [.int u37], M34) _
          refine ml_st (S' := (77, [(0, .ref r)], [.int 45, .int u37], M34)) rfl rfl rfl ?_
          refine ml_if2 (S1 := (108, [(0, .ref r)], [], M34)) (S2 := (80, [(0, .ref r)], [], M34)) rfl rfl rfl (fun c_77 => ?_) (fun c_77 => ?_)
          · have c_77 : u37 < 45 := of_decide_eq_true c_77
            refine ml_st (S' := (109, [(0, .ref r)], [.ref r], M34)) rfl rfl rfl ?_
            refine tg_ref (S' := (112, [(0, .ref r)], [.ref vd], M34)) rfl hS35.1 hY0 (by decide) rfl rfl ?_
            refine ml_blk 2 (S' := (114, [(0, .ref r)], [.int 4, .int 3, .ref vd], M34)) rfl ?_
            refine ml_call (a := [.ref vd, .int 3, .int 4]) (rest := []) rfl (okc_t rfl rfl rfl hS35.1 hY3 (by decide)) rfl rfl (tw_Ve_wrong hS35.1 hY3 (by omega)) (fun v39 M40 h41 => ?_)
            obtain ⟨rfl, h41⟩ := h41
            have hS43 := hS35.tr h41.1
            show ml _ _ _ (117, [(0, .ref r)], [.int 0], M40) _
            exact ml_ret rfl (r_z (Or.inl rfl)) (⟨⟨_, rfl, Or.inl rfl⟩, hS43⟩)
          · have c_77 : ¬ (u37 < 45) := of_decide_eq_false c_77
            refine ml_st (S' := (81, [(0, .ref r)], [.ref r], M34)) rfl rfl rfl ?_
            refine ml_get (S' := (84, [(0, .ref r)], [.int u37], M34)) rfl g38 rfl ?_
            refine ml_st (S' := (86, [(0, .ref r)], [.int 61, .int u37], M34)) rfl rfl rfl ?_
            refine ml_if2 (S1 := (108, [(0, .ref r)], [], M34)) (S2 := (89, [(0, .ref r)], [], M34)) rfl rfl rfl (fun c_86 => ?_) (fun c_86 => ?_)
            · have c_86 : 61 < u37 := of_decide_eq_true c_86
              refine ml_st (S' := (109, [(0, .ref r)], [.ref r], M34)) rfl rfl rfl ?_
              refine tg_ref (S' := (112, [(0, .ref r)], [.ref vd], M34)) rfl hS35.1 hY0 (by decide) rfl rfl ?_
              refine ml_blk 2 (S' := (114, [(0, .ref r)], [.int 4, .int 3, .ref vd], M34)) rfl ?_
              refine ml_call (a := [.ref vd, .int 3, .int 4]) (rest := []) rfl (okc_t rfl rfl rfl hS35.1 hY3 (by decide)) rfl rfl (tw_Ve_wrong hS35.1 hY3 (by omega)) (fun v44 M45 h46 => ?_)
              obtain ⟨rfl, h46⟩ := h46
              have hS48 := hS35.tr h46.1
              show ml _ _ _ (117, [(0, .ref r)], [.int 0], M45) _
              exact ml_ret rfl (r_z (Or.inl rfl)) (⟨⟨_, rfl, Or.inl rfl⟩, hS48⟩)
            · have c_86 : ¬ (61 < u37) := of_decide_eq_false c_86
              refine ml_st (S' := (90, [(0, .ref r)], [.ref r], M34)) rfl rfl rfl ?_
              refine ml_get (S' := (93, [(0, .ref r)], [.int u37], M34)) rfl g38 rfl ?_
              refine ml_st (S' := (95, [(0, .ref r)], [.int 56, .int u37], M34)) rfl rfl rfl ?_
              refine ml_if2 (S1 := (118, [], [], M34)) (S2 := (98, [(0, .ref r)], [], M34)) rfl rfl rfl (fun c_95 => ?_) (fun c_95 => ?_)
              · have c_95 : u37 < 56 := of_decide_eq_true c_95
                refine ml_st (S' := (119, [], [.int 1], M34)) rfl rfl rfl ?_
                exact ml_ret rfl (r_z (Or.inr rfl)) (⟨⟨_, rfl, Or.inr rfl⟩, hS35⟩)
              · have c_95 : ¬ (u37 < 56) := of_decide_eq_false c_95
                refine ml_st (S' := (99, [(0, .ref r)], [.ref r], M34)) rfl rfl rfl ?_
                refine tg_ref (S' := (102, [(0, .ref r)], [.ref c], M34)) rfl hS35.1 hY0 (by decide) rfl rfl ?_
                refine tg_int rfl hS35.1 hY1 (by decide) rfl (fun u49 g50 => ?_)
                show ml _ _ _ (105, [(0, .ref r)], [.int u49], M34) _
                refine ml_if (S1 := (118, [], [], M34)) (S2 := (108, [(0, .ref r)], [], M34)) rfl rfl rfl (fun c_105 => ?_) (fun c_105 => ?_)
                · have c_105 : u49 = 0 := of_decide_eq_true c_105
                  refine ml_st (S' := (119, [], [.int 1], M34)) rfl rfl rfl ?_
                  exact ml_ret rfl (r_z (Or.inr rfl)) (⟨⟨_, rfl, Or.inr rfl⟩, hS35⟩)
                · have c_105 : ¬ (u49 = 0) := of_decide_eq_false c_105
                  refine ml_st (S' := (109, [(0, .ref r)], [.ref r], M34)) rfl rfl rfl ?_
                  refine tg_ref (S' := (112, [(0, .ref r)], [.ref vd], M34)) rfl hS35.1 hY0 (by decide) rfl rfl ?_
                  refine ml_blk 2 (S' := (114, [(0, .ref r)], [.int 4, .int 3, .ref vd], M34)) rfl ?_
                  refine ml_call (a := [.ref vd, .int 3, .int 4]) (rest := []) rfl (okc_t rfl rfl rfl hS35.1 hY3 (by decide)) rfl rfl (tw_Ve_wrong hS35.1 hY3 (by omega)) (fun v51 M52 h53 => ?_)
                  obtain ⟨rfl, h53⟩ := h53
                  have hS55 := hS35.tr h53.1
                  show ml _ _ _ (117, [(0, .ref r)], [.int 0], M52) _
                  exact ml_ret rfl (r_z (Or.inl rfl)) (⟨⟨_, rfl, Or.inl rfl⟩, hS55⟩)
        · have c_55 : ¬ (¬ u29 = 0) := of_decide_eq_false c_55
          refine ml_st (S' := (59, [(0, .ref r)], [.int 0], M27)) rfl rfl rfl ?_
          exact ml_ret rfl (r_z (Or.inl rfl)) (⟨⟨_, rfl, Or.inl rfl⟩, hS31⟩)
      · have c_34 : ¬ (¬ u16 = 0) := of_decide_eq_false c_34
        refine ml_st (S' := (38, [(0, .ref r)], [.int 0], M14)) rfl rfl rfl ?_
        exact ml_ret rfl (r_z (Or.inl rfl)) (⟨⟨_, rfl, Or.inl rfl⟩, hS18⟩)
    · have c_16 : ¬ (u9 = (-889275714)) := of_decide_eq_false c_16
      refine ml_st (S' := (20, [(0, .ref r)], [.ref r], M4)) rfl rfl rfl ?_
      refine tg_ref (S' := (23, [(0, .ref r)], [.ref vd], M4)) rfl hS8.1 hY0 (by decide) rfl rfl ?_
      refine ml_blk 2 (S' := (25, [(0, .ref r)], [.int 0, .int 2, .ref vd], M4)) rfl ?_
      refine ml_call (a := [.ref vd, .int 2, .int 0]) (rest := []) rfl (okc_t rfl rfl rfl hS8.1 hY3 (by decide)) rfl rfl (tw_Ve_wrong hS8.1 hY3 (by omega)) (fun v56 M57 h58 => ?_)
      obtain ⟨rfl, h58⟩ := h58
      have hS60 := hS8.tr h58.1
      show ml _ _ _ (28, [(0, .ref r)], [.int 0], M57) _
      exact ml_ret rfl (r_z (Or.inl rfl)) (⟨⟨_, rfl, Or.inl rfl⟩, hS60⟩)
  · have c_5 : ¬ (¬ u6 = 0) := of_decide_eq_false c_5
    refine ml_st (S' := (9, [(0, .ref r)], [.int 0], M4)) rfl rfl rfl ?_
    exact ml_ret rfl (r_z (Or.inl rfl)) (⟨⟨_, rfl, Or.inl rfl⟩, hS8⟩)
set_option maxHeartbeats 2000000 in
theorem tr_takesClass {g : xe_G} {M : mi_H} {Y : yT} {r c b vd n da : Nat}  (hW : WF g Y M) (hY0 : Y.1 r = some (9, [c, b, vd, n])) (hY1 : Y.1 c = some (3, [b, da, n])) (hY2 : Y.1 b = some (1, [da, n])) (hY3 : Y.1 vd = some (10, [])) {d : Nat} (hd : 3 ≤ d) : mt (mT g) d 161 [.ref r] M (qZ g Y M) := by
  obtain ⟨d, rfl⟩ : ∃ e, d = e + 1 := ⟨d - 1, by omega⟩
  have hS : st g Y M M := st.rf hW
  refine mt_in (b := mb_161 g) rfl rfl ?_
  show ml (mT g) d (mb_161 g).2 (0, [(0, .ref r)], [], M) _
  refine ml_st (S' := (1, [(0, .ref r)], [.ref r], M)) rfl rfl rfl ?_
  refine tg_ref (S' := (4, [(0, .ref r)], [.ref c], M)) rfl hS.1 hY0 (by decide) rfl rfl ?_
  refine ml_st (S' := (5, [(0, .ref r)], [.ref r, .ref c], M)) rfl rfl rfl ?_
  refine tg_int rfl hS.1 hY0 (by decide) rfl (fun u1 g2 => ?_)
  show ml _ _ _ (8, [(0, .ref r)], [.int u1, .ref c], M) _
  refine tp_put rfl hS hY1 (by decide) rfl (⟨_, rfl⟩) rfl rfl (fun M3 hS4 f5 => ?_)
  show ml _ _ _ (11, [(0, .ref r)], [], M3) _
  refine ml_blk 2 (S' := (13, [(0, .ref r)], [.int 2, .ref r], M3)) rfl ?_
  obtain ⟨u6, g7, -⟩ := hS4.1.rd hY0
  refine ml_call (a := [.ref r, .int 2]) (rest := []) rfl (okc_t rfl rfl rfl hS4.1 hY0 (by decide)) rfl rfl (tr_takes hS4.1 hY0 hY1 hY2 hY3 g7 (by decide) (by omega)) (fun v8 M9 h10 => ?_)
  obtain ⟨⟨u11, rfl, z12⟩, h10⟩ := h10
  have hS13 := hS4.tr h10.1
  show ml _ _ _ (16, [(0, .ref r)], [.int u11], M9) _
  refine ml_if (S1 := (43, [], [], M9)) (S2 := (19, [(0, .ref r)], [], M9)) rfl rfl rfl (fun c_16 => ?_) (fun c_16 => ?_)
  · have c_16 : u11 = 0 := of_decide_eq_true c_16
    refine ml_st (S' := (44, [], [.int 0], M9)) rfl rfl rfl ?_
    exact ml_ret rfl (r_z (Or.inl rfl)) (⟨⟨_, rfl, Or.inl rfl⟩, hS13⟩)
  · have c_16 : ¬ (u11 = 0) := of_decide_eq_false c_16
    refine ml_blk 2 (S' := (21, [(0, .ref r)], [.int 2, .ref r], M9)) rfl ?_
    obtain ⟨u14, g15, -⟩ := hS13.1.rd hY0
    refine ml_call (a := [.ref r, .int 2]) (rest := []) rfl (okc_t rfl rfl rfl hS13.1 hY0 (by decide)) rfl rfl (tr_takes hS13.1 hY0 hY1 hY2 hY3 g15 (by decide) (by omega)) (fun v16 M17 h18 => ?_)
    obtain ⟨⟨u19, rfl, z20⟩, h18⟩ := h18
    have hS21 := hS13.tr h18.1
    show ml _ _ _ (24, [(0, .ref r)], [.int u19], M17) _
    refine ml_if (S1 := (43, [], [], M17)) (S2 := (27, [(0, .ref r)], [], M17)) rfl rfl rfl (fun c_24 => ?_) (fun c_24 => ?_)
    · have c_24 : u19 = 0 := of_decide_eq_true c_24
      refine ml_st (S' := (44, [], [.int 0], M17)) rfl rfl rfl ?_
      exact ml_ret rfl (r_z (Or.inl rfl)) (⟨⟨_, rfl, Or.inl rfl⟩, hS21⟩)
    · have c_24 : ¬ (u19 = 0) := of_decide_eq_false c_24
      refine ml_blk 2 (S' := (29, [(0, .ref r)], [.int 2, .ref r], M17)) rfl ?_
      obtain ⟨u22, g23, -⟩ := hS21.1.rd hY0
      refine ml_call (a := [.ref r, .int 2]) (rest := []) rfl (okc_t rfl rfl rfl hS21.1 hY0 (by decide)) rfl rfl (tr_takes hS21.1 hY0 hY1 hY2 hY3 g23 (by decide) (by omega)) (fun v24 M25 h26 => ?_)
      obtain ⟨⟨u27, rfl, z28⟩, h26⟩ := h26
      have hS29 := hS21.tr h26.1
      show ml _ _ _ (32, [(0, .ref r)], [.int u27], M25) _
      refine ml_if (S1 := (43, [], [], M25)) (S2 := (35, [(0, .ref r)], [], M25)) rfl rfl rfl (fun c_32 => ?_) (fun c_32 => ?_)
      · have c_32 : u27 = 0 := of_decide_eq_true c_32
        refine ml_st (S' := (44, [], [.int 0], M25)) rfl rfl rfl ?_
        exact ml_ret rfl (r_z (Or.inl rfl)) (⟨⟨_, rfl, Or.inl rfl⟩, hS29⟩)
      · have c_32 : ¬ (u27 = 0) := of_decide_eq_false c_32
        refine ml_blk 2 (S' := (37, [(0, .ref r)], [.int 2, .ref r], M25)) rfl ?_
        obtain ⟨u30, g31, -⟩ := hS29.1.rd hY0
        refine ml_call (a := [.ref r, .int 2]) (rest := []) rfl (okc_t rfl rfl rfl hS29.1 hY0 (by decide)) rfl rfl (tr_takes hS29.1 hY0 hY1 hY2 hY3 g31 (by decide) (by omega)) (fun v32 M33 h34 => ?_)
        obtain ⟨⟨u35, rfl, z36⟩, h34⟩ := h34
        have hS37 := hS29.tr h34.1
        show ml _ _ _ (40, [(0, .ref r)], [.int u35], M33) _
        refine ml_if (S1 := (45, [(0, .ref r)], [], M33)) (S2 := (43, [], [], M33)) rfl rfl rfl (fun c_40 => ?_) (fun c_40 => ?_)
        · have c_40 : ¬ u35 = 0 := of_decide_eq_true c_40
          refine ml_st (S' := (46, [(0, .ref r)], [.ref r], M33)) rfl rfl rfl ?_
          refine tg_int rfl hS37.1 hY0 (by decide) rfl (fun u38 g39 => ?_)
          show ml _ _ _ (49, [(0, .ref r)], [.int u38], M33) _
          refine ml_st (S' := (50, [(1, .int u38), (0, .ref r)], [], M33)) rfl rfl rfl ?_
          refine ml_st (S' := (51, [(1, .int u38), (0, .ref r)], [.int 0], M33)) rfl rfl rfl ?_
          refine ml_st (S' := (52, [(0, .ref r), (1, .int u38), (2, .int 0)], [], M33)) rfl rfl rfl ?_
          have L_52 : ∀ (n_52 : Nat) (i52_2 : Int32) (M_52 : mi_H), (2147483648 - i52_2.toInt).toNat ≤ n_52 → st g Y M M_52 → ml (mT g) d (mb_161 g).2 (52, [(0, .ref r), (1, .int u38), (2, .int i52_2)], [], M_52) (qZ g Y M) := by
            intro n_52
            induction n_52 with
            | zero => intro i52_2 M_52 hn; exact (loop_zero hn).elim
            | succ n_52 ih_52 =>
              intro i52_2 M_52 hn_52 hS_52
              refine ml_blk 2 (S' := (54, [(0, .ref r), (1, .int u38), (2, .int i52_2)], [.int u38, .int i52_2], M_52)) rfl ?_
              refine ml_if2 (S1 := (73, [(0, .ref r), (1, .int u38), (2, .int i52_2)], [], M_52)) (S2 := (57, [(0, .ref r), (1, .int u38), (2, .int i52_2)], [], M_52)) rfl rfl rfl (fun c_54 => ?_) (fun c_54 => ?_)
              · have c_54 : u38 ≤ i52_2 := of_decide_eq_true c_54
                refine ml_st (S' := (74, [(0, .ref r), (1, .int u38), (2, .int i52_2)], [.ref r], M_52)) rfl rfl rfl ?_
                refine tg_ref (S' := (77, [(0, .ref r), (1, .int u38), (2, .int i52_2)], [.ref c], M_52)) rfl hS_52.1 hY0 (by decide) rfl rfl ?_
                refine ml_st (S' := (78, [(0, .ref r), (1, .int u38), (2, .int i52_2)], [.int u38, .ref c], M_52)) rfl rfl rfl ?_
                refine tp_put rfl hS_52 hY1 (by decide) rfl (⟨_, rfl⟩) rfl rfl (fun M40 hS41 f42 => ?_)
                show ml _ _ _ (81, [(0, .ref r), (1, .int u38), (2, .int i52_2)], [], M40) _
                refine ml_st (S' := (82, [(0, .ref r), (1, .int u38), (2, .int i52_2)], [.int 1], M40)) rfl rfl rfl ?_
                exact ml_ret rfl (r_z (Or.inr rfl)) (⟨⟨_, rfl, Or.inr rfl⟩, hS41⟩)
              · have c_54 : ¬ (u38 ≤ i52_2) := of_decide_eq_false c_54
                refine ml_blk 2 (S' := (59, [(0, .ref r), (1, .int u38), (2, .int i52_2)], [.int 2, .ref r], M_52)) rfl ?_
                obtain ⟨u43, g44, -⟩ := hS_52.1.rd hY0
                refine ml_call (a := [.ref r, .int 2]) (rest := []) rfl (okc_t rfl rfl rfl hS_52.1 hY0 (by decide)) rfl rfl (tr_takes hS_52.1 hY0 hY1 hY2 hY3 g44 (by decide) (by omega)) (fun v45 M46 h47 => ?_)
                obtain ⟨⟨u48, rfl, z49⟩, h47⟩ := h47
                have hS50 := hS_52.tr h47.1
                show ml _ _ _ (62, [(0, .ref r), (1, .int u38), (2, .int i52_2)], [.int u48], M46) _
                refine ml_if (S1 := (67, [(0, .ref r), (1, .int u38), (2, .int i52_2)], [], M46)) (S2 := (65, [(0, .ref r), (1, .int u38), (2, .int i52_2)], [], M46)) rfl rfl rfl (fun c_62 => ?_) (fun c_62 => ?_)
                · have c_62 : ¬ u48 = 0 := of_decide_eq_true c_62
                  refine ml_st (S' := (70, [(2, .int (i52_2 + 1)), (0, .ref r), (1, .int u38)], [], M46)) rfl rfl rfl ?_
                  refine ml_st (S' := (52, [(0, .ref r), (1, .int u38), (2, .int (i52_2 + 1))], [], M46)) rfl rfl rfl ?_
                  exact ih_52 (i52_2 + 1) _ (loop_inc (Int32.not_le.mp c_54) hn_52) hS50
                · have c_62 : ¬ (¬ u48 = 0) := of_decide_eq_false c_62
                  refine ml_st (S' := (66, [(0, .ref r), (1, .int u38), (2, .int i52_2)], [.int 0], M46)) rfl rfl rfl ?_
                  exact ml_ret rfl (r_z (Or.inl rfl)) (⟨⟨_, rfl, Or.inl rfl⟩, hS50⟩)
          exact L_52 _ 0 _ (Nat.le_refl _) hS37
        · have c_40 : ¬ (¬ u35 = 0) := of_decide_eq_false c_40
          refine ml_st (S' := (44, [], [.int 0], M33)) rfl rfl rfl ?_
          exact ml_ret rfl (r_z (Or.inl rfl)) (⟨⟨_, rfl, Or.inl rfl⟩, hS37⟩)
set_option maxHeartbeats 2000000 in
theorem tr_isTag {g : xe_G} {M : mi_H} {Y : yT} {r c b vd n da : Nat} {x1 : Int32}  (hW : WF g Y M) (hY0 : Y.1 r = some (9, [c, b, vd, n])) (hY1 : Y.1 c = some (3, [b, da, n])) (hY2 : Y.1 b = some (1, [da, n])) (hY3 : Y.1 vd = some (10, [])) {d : Nat} (hd : 1 ≤ d) : mt (mT g) d 157 [.ref r, .int x1] M (pZ M) := by
  obtain ⟨d, rfl⟩ : ∃ e, d = e + 1 := ⟨d - 1, by omega⟩
  have hS : st g Y M M := st.rf hW
  refine mt_in (b := mb_157 g) rfl rfl ?_
  show ml (mT g) d (mb_157 g).2 (0, [(0, .ref r), (1, .int x1)], [], M) _
  refine ml_st (S' := (1, [(0, .ref r), (1, .int x1)], [.int x1], M)) rfl rfl rfl ?_
  refine ml_sw rfl (fun t_1 ht_1 => ?_)
  have kt_1 := ht_1
  have ht_1 : t_1 ∈ [40, 58, 76, 94] := mi_sw_sub ht_1 (by decide)
  simp only [List.mem_cons, List.not_mem_nil, or_false] at ht_1
  rcases ht_1 with rfl | rfl | rfl | rfl
  · show ml _ _ _ (40, [(0, .ref r), (1, .int x1)], [], M) _
    refine ml_st (S' := (41, [(0, .ref r), (1, .int x1)], [.ref r], M)) rfl rfl rfl ?_
    refine tg_ref (S' := (44, [(0, .ref r), (1, .int x1)], [.ref c], M)) rfl hS.1 hY0 (by decide) rfl rfl ?_
    refine tg_int rfl hS.1 hY1 (by decide) rfl (fun u1 g2 => ?_)
    show ml _ _ _ (47, [(0, .ref r), (1, .int x1)], [.int u1], M) _
    refine ml_st (S' := (49, [(0, .ref r), (1, .int x1)], [.int 51, .int u1], M)) rfl rfl rfl ?_
    refine ml_if2 (S1 := (56, [(0, .ref r), (1, .int x1)], [], M)) (S2 := (52, [(0, .ref r), (1, .int x1)], [], M)) rfl rfl rfl (fun c_49 => ?_) (fun c_49 => ?_)
    · have c_49 : u1 < 51 := of_decide_eq_true c_49
      refine ml_st (S' := (57, [], [.int 0], M)) rfl rfl rfl ?_
      exact ml_ret rfl (r_z (Or.inl rfl)) (⟨⟨_, rfl, Or.inl rfl⟩, rfl⟩)
    · have c_49 : ¬ (u1 < 51) := of_decide_eq_false c_49
      refine ml_st (S' := (53, [(0, .ref r), (1, .int x1)], [.int 1], M)) rfl rfl rfl ?_
      refine ml_st (S' := (57, [], [.int 1], M)) rfl rfl rfl ?_
      exact ml_ret rfl (r_z (Or.inr rfl)) (⟨⟨_, rfl, Or.inr rfl⟩, rfl⟩)
  · show ml _ _ _ (58, [(0, .ref r), (1, .int x1)], [], M) _
    refine ml_st (S' := (59, [(0, .ref r), (1, .int x1)], [.ref r], M)) rfl rfl rfl ?_
    refine tg_ref (S' := (62, [(0, .ref r), (1, .int x1)], [.ref c], M)) rfl hS.1 hY0 (by decide) rfl rfl ?_
    refine tg_int rfl hS.1 hY1 (by decide) rfl (fun u3 g4 => ?_)
    show ml _ _ _ (65, [(0, .ref r), (1, .int x1)], [.int u3], M) _
    refine ml_st (S' := (67, [(0, .ref r), (1, .int x1)], [.int 53, .int u3], M)) rfl rfl rfl ?_
    refine ml_if2 (S1 := (74, [(0, .ref r), (1, .int x1)], [], M)) (S2 := (70, [(0, .ref r), (1, .int x1)], [], M)) rfl rfl rfl (fun c_67 => ?_) (fun c_67 => ?_)
    · have c_67 : u3 < 53 := of_decide_eq_true c_67
      refine ml_st (S' := (75, [], [.int 0], M)) rfl rfl rfl ?_
      exact ml_ret rfl (r_z (Or.inl rfl)) (⟨⟨_, rfl, Or.inl rfl⟩, rfl⟩)
    · have c_67 : ¬ (u3 < 53) := of_decide_eq_false c_67
      refine ml_st (S' := (71, [(0, .ref r), (1, .int x1)], [.int 1], M)) rfl rfl rfl ?_
      refine ml_st (S' := (75, [], [.int 1], M)) rfl rfl rfl ?_
      exact ml_ret rfl (r_z (Or.inr rfl)) (⟨⟨_, rfl, Or.inr rfl⟩, rfl⟩)
  · show ml _ _ _ (76, [(0, .ref r), (1, .int x1)], [], M) _
    refine ml_st (S' := (77, [(0, .ref r), (1, .int x1)], [.ref r], M)) rfl rfl rfl ?_
    refine tg_ref (S' := (80, [(0, .ref r), (1, .int x1)], [.ref c], M)) rfl hS.1 hY0 (by decide) rfl rfl ?_
    refine tg_int rfl hS.1 hY1 (by decide) rfl (fun u5 g6 => ?_)
    show ml _ _ _ (83, [(0, .ref r), (1, .int x1)], [.int u5], M) _
    refine ml_st (S' := (85, [(0, .ref r), (1, .int x1)], [.int 55, .int u5], M)) rfl rfl rfl ?_
    refine ml_if2 (S1 := (92, [(0, .ref r), (1, .int x1)], [], M)) (S2 := (88, [(0, .ref r), (1, .int x1)], [], M)) rfl rfl rfl (fun c_85 => ?_) (fun c_85 => ?_)
    · have c_85 : u5 < 55 := of_decide_eq_true c_85
      refine ml_st (S' := (93, [], [.int 0], M)) rfl rfl rfl ?_
      exact ml_ret rfl (r_z (Or.inl rfl)) (⟨⟨_, rfl, Or.inl rfl⟩, rfl⟩)
    · have c_85 : ¬ (u5 < 55) := of_decide_eq_false c_85
      refine ml_st (S' := (89, [(0, .ref r), (1, .int x1)], [.int 1], M)) rfl rfl rfl ?_
      refine ml_st (S' := (93, [], [.int 1], M)) rfl rfl rfl ?_
      exact ml_ret rfl (r_z (Or.inr rfl)) (⟨⟨_, rfl, Or.inr rfl⟩, rfl⟩)
  · show ml _ _ _ (94, [(0, .ref r), (1, .int x1)], [], M) _
    refine ml_blk 2 (S' := (96, [(0, .ref r), (1, .int x1)], [.int 1, .int x1], M)) rfl ?_
    refine ml_if2 (S1 := (110, [], [], M)) (S2 := (99, [(0, .ref r), (1, .int x1)], [], M)) rfl rfl rfl (fun c_96 => ?_) (fun c_96 => ?_)
    · have c_96 : x1 = 1 := of_decide_eq_true c_96
      refine ml_st (S' := (111, [], [.int 1], M)) rfl rfl rfl ?_
      refine ml_st (S' := (115, [], [.int 1], M)) rfl rfl rfl ?_
      exact ml_ret rfl (r_z (Or.inr rfl)) (⟨⟨_, rfl, Or.inr rfl⟩, rfl⟩)
    · have c_96 : ¬ (x1 = 1) := of_decide_eq_false c_96
      refine ml_blk 2 (S' := (101, [(0, .ref r), (1, .int x1)], [.int 3, .int x1], M)) rfl ?_
      refine ml_if2 (S1 := (114, [], [], M)) (S2 := (104, [(0, .ref r), (1, .int x1)], [], M)) rfl rfl rfl (fun c_101 => ?_) (fun c_101 => ?_)
      · have c_101 : x1 < 3 := of_decide_eq_true c_101
        refine ml_st (S' := (115, [], [.int 0], M)) rfl rfl rfl ?_
        exact ml_ret rfl (r_z (Or.inl rfl)) (⟨⟨_, rfl, Or.inl rfl⟩, rfl⟩)
      · have c_101 : ¬ (x1 < 3) := of_decide_eq_false c_101
        refine ml_blk 2 (S' := (107, [(0, .ref r), (1, .int x1)], [.int 12, .int x1], M)) rfl ?_
        refine ml_if2 (S1 := (114, [], [], M)) (S2 := (110, [], [], M)) rfl rfl rfl (fun c_107 => ?_) (fun c_107 => ?_)
        · have c_107 : 12 < x1 := of_decide_eq_true c_107
          refine ml_st (S' := (115, [], [.int 0], M)) rfl rfl rfl ?_
          exact ml_ret rfl (r_z (Or.inl rfl)) (⟨⟨_, rfl, Or.inl rfl⟩, rfl⟩)
        · have c_107 : ¬ (12 < x1) := of_decide_eq_false c_107
          refine ml_st (S' := (111, [], [.int 1], M)) rfl rfl rfl ?_
          refine ml_st (S' := (115, [], [.int 1], M)) rfl rfl rfl ?_
          exact ml_ret rfl (r_z (Or.inr rfl)) (⟨⟨_, rfl, Or.inr rfl⟩, rfl⟩)
set_option maxHeartbeats 2000000 in
theorem tr_characterOf {g : xe_G} {M : mi_H} {Y : yT} {r c b vd n da : Nat} {x1 : Int32}  (hW : WF g Y M) (hY0 : Y.1 r = some (9, [c, b, vd, n])) (hY1 : Y.1 c = some (3, [b, da, n])) (hY2 : Y.1 b = some (1, [da, n])) (hY3 : Y.1 vd = some (10, [])) {d : Nat} (hd : 2 ≤ d) : mt (mT g) d 155 [.ref r, .int x1] M (pI M) := by
  obtain ⟨d, rfl⟩ : ∃ e, d = e + 1 := ⟨d - 1, by omega⟩
  have hS : st g Y M M := st.rf hW
  refine mt_in (b := mb_155 g) rfl rfl ?_
  show ml (mT g) d (mb_155 g).2 (0, [(0, .ref r), (1, .int x1)], [], M) _
  refine ml_st (S' := (1, [(0, .ref r), (1, .int x1)], [.ref r], M)) rfl rfl rfl ?_
  refine tg_ref (S' := (4, [(0, .ref r), (1, .int x1)], [.ref b], M)) rfl hS.1 hY0 (by decide) rfl rfl ?_
  refine ml_st (S' := (5, [(0, .ref r), (1, .int x1)], [.ref r, .ref b], M)) rfl rfl rfl ?_
  refine tg_int rfl hS.1 hY0 (by decide) rfl (fun u1 g2 => ?_)
  show ml _ _ _ (8, [(0, .ref r), (1, .int x1)], [.int u1, .ref b], M) _
  refine ml_call (a := [.ref b, .int u1]) (rest := []) rfl (okc_t rfl rfl rfl hS.1 hY2 (by decide)) rfl rfl (tq_u1 hS.1 hY2 (by omega)) (fun v3 M4 h5 => ?_)
  obtain ⟨⟨u6, rfl⟩, h5⟩ := h5
  rw [h5]
  show ml _ _ _ (11, [(0, .ref r), (1, .int x1)], [.int u6], M) _
  refine ml_st (S' := (12, [(2, .int u6), (0, .ref r), (1, .int x1)], [], M)) rfl rfl rfl ?_
  refine ml_blk 2 (S' := (14, [(2, .int u6), (0, .ref r), (1, .int x1)], [.int 1, .int x1], M)) rfl ?_
  refine ml_if2 (S1 := (19, [(2, .int u6), (0, .ref r), (1, .int x1)], [], M)) (S2 := (17, [(2, .int u6), (0, .ref r), (1, .int x1)], [], M)) rfl rfl rfl (fun c_14 => ?_) (fun c_14 => ?_)
  · have c_14 : ¬ x1 = 1 := of_decide_eq_true c_14
    refine ml_blk 2 (S' := (21, [(2, .int u6), (0, .ref r), (1, .int x1)], [.int 2, .int x1], M)) rfl ?_
    refine ml_if2 (S1 := (49, [(2, .int u6), (0, .ref r), (1, .int x1)], [], M)) (S2 := (24, [(2, .int u6), (0, .ref r), (1, .int x1)], [], M)) rfl rfl rfl (fun c_21 => ?_) (fun c_21 => ?_)
    · have c_21 : ¬ x1 = 2 := of_decide_eq_true c_21
      refine ml_blk 3 (S' := (53, [(2, .int u6), (0, .ref r), (1, .int x1)], [.int (u6 &&& 15)], M)) rfl ?_
      refine ml_blk 3 (S' := (57, [(2, .int u6), (0, .ref r), (1, .int x1)], [.ref r, .int ((u6 &&& 15) <<< (12 &&& 31))], M)) rfl ?_
      refine tg_ref (S' := (60, [(2, .int u6), (0, .ref r), (1, .int x1)], [.ref b, .int ((u6 &&& 15) <<< (12 &&& 31))], M)) rfl hS.1 hY0 (by decide) rfl rfl ?_
      refine ml_st (S' := (61, [(2, .int u6), (0, .ref r), (1, .int x1)], [.ref r, .ref b, .int ((u6 &&& 15) <<< (12 &&& 31))], M)) rfl rfl rfl ?_
      refine ml_get (S' := (64, [(2, .int u6), (0, .ref r), (1, .int x1)], [.int u1, .ref b, .int ((u6 &&& 15) <<< (12 &&& 31))], M)) rfl g2 rfl ?_
      refine ml_blk 2 (S' := (66, [(2, .int u6), (0, .ref r), (1, .int x1)], [.int (u1 + 1), .ref b, .int ((u6 &&& 15) <<< (12 &&& 31))], M)) rfl ?_
      refine ml_call (a := [.ref b, .int (u1 + 1)]) (rest := [.int ((u6 &&& 15) <<< (12 &&& 31))]) rfl (okc_t rfl rfl rfl hS.1 hY2 (by decide)) rfl rfl (tq_u1 hS.1 hY2 (by omega)) (fun v7 M8 h9 => ?_)
      obtain ⟨⟨u10, rfl⟩, h9⟩ := h9
      rw [h9]
      show ml _ _ _ (69, [(2, .int u6), (0, .ref r), (1, .int x1)], [.int u10, .int ((u6 &&& 15) <<< (12 &&& 31))], M) _
      refine ml_blk 3 (S' := (74, [(2, .int u6), (0, .ref r), (1, .int x1)], [.int 6, .int (u10 &&& 63), .int ((u6 &&& 15) <<< (12 &&& 31))], M)) rfl ?_
      refine ml_blk 3 (S' := (77, [(2, .int u6), (0, .ref r), (1, .int x1)], [.ref r, .int (((u6 &&& 15) <<< (12 &&& 31)) ||| ((u10 &&& 63) <<< (6 &&& 31)))], M)) rfl ?_
      refine tg_ref (S' := (80, [(2, .int u6), (0, .ref r), (1, .int x1)], [.ref b, .int (((u6 &&& 15) <<< (12 &&& 31)) ||| ((u10 &&& 63) <<< (6 &&& 31)))], M)) rfl hS.1 hY0 (by decide) rfl rfl ?_
      refine ml_st (S' := (81, [(2, .int u6), (0, .ref r), (1, .int x1)], [.ref r, .ref b, .int (((u6 &&& 15) <<< (12 &&& 31)) ||| ((u10 &&& 63) <<< (6 &&& 31)))], M)) rfl rfl rfl ?_
      refine ml_get (S' := (84, [(2, .int u6), (0, .ref r), (1, .int x1)], [.int u1, .ref b, .int (((u6 &&& 15) <<< (12 &&& 31)) ||| ((u10 &&& 63) <<< (6 &&& 31)))], M)) rfl g2 rfl ?_
      refine ml_blk 2 (S' := (86, [(2, .int u6), (0, .ref r), (1, .int x1)], [.int (u1 + 2), .ref b, .int (((u6 &&& 15) <<< (12 &&& 31)) ||| ((u10 &&& 63) <<< (6 &&& 31)))], M)) rfl ?_
      refine ml_call (a := [.ref b, .int (u1 + 2)]) (rest := [.int (((u6 &&& 15) <<< (12 &&& 31)) ||| ((u10 &&& 63) <<< (6 &&& 31)))]) rfl (okc_t rfl rfl rfl hS.1 hY2 (by decide)) rfl rfl (tq_u1 hS.1 hY2 (by omega)) (fun v11 M12 h13 => ?_)
      obtain ⟨⟨u14, rfl⟩, h13⟩ := h13
      rw [h13]
      show ml _ _ _ (89, [(2, .int u6), (0, .ref r), (1, .int x1)], [.int u14, .int (((u6 &&& 15) <<< (12 &&& 31)) ||| ((u10 &&& 63) <<< (6 &&& 31)))], M) _
      refine ml_blk 3 (S' := (93, [(2, .int u6), (0, .ref r), (1, .int x1)], [.int ((((u6 &&& 15) <<< (12 &&& 31)) ||| ((u10 &&& 63) <<< (6 &&& 31))) ||| (u14 &&& 63))], M)) rfl ?_
      exact ml_ret rfl (rfl) (⟨⟨_, rfl⟩, rfl⟩)
    · have c_21 : ¬ (¬ x1 = 2) := of_decide_eq_false c_21
      refine ml_blk 3 (S' := (28, [(2, .int u6), (0, .ref r), (1, .int x1)], [.int (u6 &&& 31)], M)) rfl ?_
      refine ml_blk 3 (S' := (32, [(2, .int u6), (0, .ref r), (1, .int x1)], [.ref r, .int ((u6 &&& 31) <<< (6 &&& 31))], M)) rfl ?_
      refine tg_ref (S' := (35, [(2, .int u6), (0, .ref r), (1, .int x1)], [.ref b, .int ((u6 &&& 31) <<< (6 &&& 31))], M)) rfl hS.1 hY0 (by decide) rfl rfl ?_
      refine ml_st (S' := (36, [(2, .int u6), (0, .ref r), (1, .int x1)], [.ref r, .ref b, .int ((u6 &&& 31) <<< (6 &&& 31))], M)) rfl rfl rfl ?_
      refine ml_get (S' := (39, [(2, .int u6), (0, .ref r), (1, .int x1)], [.int u1, .ref b, .int ((u6 &&& 31) <<< (6 &&& 31))], M)) rfl g2 rfl ?_
      refine ml_blk 2 (S' := (41, [(2, .int u6), (0, .ref r), (1, .int x1)], [.int (u1 + 1), .ref b, .int ((u6 &&& 31) <<< (6 &&& 31))], M)) rfl ?_
      refine ml_call (a := [.ref b, .int (u1 + 1)]) (rest := [.int ((u6 &&& 31) <<< (6 &&& 31))]) rfl (okc_t rfl rfl rfl hS.1 hY2 (by decide)) rfl rfl (tq_u1 hS.1 hY2 (by omega)) (fun v15 M16 h17 => ?_)
      obtain ⟨⟨u18, rfl⟩, h17⟩ := h17
      rw [h17]
      show ml _ _ _ (44, [(2, .int u6), (0, .ref r), (1, .int x1)], [.int u18, .int ((u6 &&& 31) <<< (6 &&& 31))], M) _
      refine ml_blk 3 (S' := (48, [(2, .int u6), (0, .ref r), (1, .int x1)], [.int (((u6 &&& 31) <<< (6 &&& 31)) ||| (u18 &&& 63))], M)) rfl ?_
      exact ml_ret rfl (rfl) (⟨⟨_, rfl⟩, rfl⟩)
  · have c_14 : ¬ (¬ x1 = 1) := of_decide_eq_false c_14
    refine ml_st (S' := (18, [(2, .int u6), (0, .ref r), (1, .int x1)], [.int u6], M)) rfl rfl rfl ?_
    exact ml_ret rfl (rfl) (⟨⟨_, rfl⟩, rfl⟩)
theorem add_k {a k : Int32} {n : Nat} (h0 : 0 ≤ a.toInt) (h1 : a.toInt ≤ n) (hn : n < 1073741824) (hk : 0 ≤ k.toInt) (hk' : k.toInt < 1073741824) : (a + k).toInt = a.toInt + k.toInt := i_add (by omega) (by omega)
set_option maxHeartbeats 2000000 in
theorem tr_characterSize {g : xe_G} {M : mi_H} {Y : yT} {r c b vd n da : Nat} {x1 : Int32} {a0 : Int32} (hW : WF g Y M) (hY0 : Y.1 r = some (9, [c, b, vd, n])) (hY1 : Y.1 c = some (3, [b, da, n])) (hY2 : Y.1 b = some (1, [da, n])) (hY3 : Y.1 vd = some (10, [])) (hr3 : mi_gf M r 9 3 = some (.int a0)) (hlt : a0 < x1) {d : Nat} (hd : 2 ≤ d) : mt (mT g) d 156 [.ref r, .int x1] M (fun v M' => (∃ x : Int32, v = some (.int x) ∧ (x = 0 ∨ 1 ≤ x.toInt ∧ a0.toInt + x.toInt ≤ x1.toInt)) ∧ M' = M) := by
  obtain ⟨d, rfl⟩ : ∃ e, d = e + 1 := ⟨d - 1, by omega⟩
  have hS : st g Y M M := st.rf hW
  refine mt_in (b := mb_156 g) rfl rfl ?_
  show ml (mT g) d (mb_156 g).2 (0, [(0, .ref r), (1, .int x1)], [], M) _
  obtain ⟨h0, h1⟩ := hW.rdb hY0 hr3
  have hn := hW.bn hY2
  refine ml_st (S' := (1, [(0, .ref r), (1, .int x1)], [.ref r], M)) rfl rfl rfl ?_
  refine tg_ref (S' := (4, [(0, .ref r), (1, .int x1)], [.ref b], M)) rfl hS.1 hY0 (by decide) rfl rfl ?_
  refine ml_st (S' := (5, [(0, .ref r), (1, .int x1)], [.ref r, .ref b], M)) rfl rfl rfl ?_
  refine ml_get (S' := (8, [(0, .ref r), (1, .int x1)], [.int a0, .ref b], M)) rfl hr3 rfl ?_
  refine ml_call (a := [.ref b, .int a0]) (rest := []) rfl (okc_t rfl rfl rfl hS.1 hY2 (by decide)) rfl rfl (tq_u1 hS.1 hY2 (by omega)) (fun v1 M2 h3 => ?_)
  obtain ⟨⟨u4, rfl⟩, h3⟩ := h3
  rw [h3]
  show ml _ _ _ (11, [(0, .ref r), (1, .int x1)], [.int u4], M) _
  refine ml_st (S' := (12, [(2, .int u4), (0, .ref r), (1, .int x1)], [], M)) rfl rfl rfl ?_
  refine ml_blk 2 (S' := (16, [(2, .int u4), (0, .ref r), (1, .int x1)], [.int 128, .int u4], M)) rfl ?_
  refine ml_if2 (S1 := (29, [(2, .int u4), (0, .ref r), (1, .int x1)], [], M)) (S2 := (19, [(2, .int u4), (0, .ref r), (1, .int x1)], [], M)) rfl rfl rfl (fun c_16 => ?_) (fun c_16 => ?_)
  · have c_16 : 128 ≤ u4 := of_decide_eq_true c_16
    refine ml_blk 2 (S' := (33, [(2, .int u4), (0, .ref r), (1, .int x1)], [.int 192, .int u4], M)) rfl ?_
    refine ml_if2 (S1 := (60, [], [], M)) (S2 := (36, [(2, .int u4), (0, .ref r), (1, .int x1)], [], M)) rfl rfl rfl (fun c_33 => ?_) (fun c_33 => ?_)
    · have c_33 : u4 < 192 := of_decide_eq_true c_33
      refine ml_st (S' := (61, [], [.int 0], M)) rfl rfl rfl ?_
      exact ml_ret rfl (rfl) (⟨⟨_, rfl, Or.inl rfl⟩, rfl⟩)
    · have c_33 : ¬ (u4 < 192) := of_decide_eq_false c_33
      refine ml_blk 2 (S' := (40, [(2, .int u4), (0, .ref r), (1, .int x1)], [.int 240, .int u4], M)) rfl ?_
      refine ml_if2 (S1 := (60, [], [], M)) (S2 := (43, [(2, .int u4), (0, .ref r), (1, .int x1)], [], M)) rfl rfl rfl (fun c_40 => ?_) (fun c_40 => ?_)
      · have c_40 : 240 ≤ u4 := of_decide_eq_true c_40
        refine ml_st (S' := (61, [], [.int 0], M)) rfl rfl rfl ?_
        exact ml_ret rfl (rfl) (⟨⟨_, rfl, Or.inl rfl⟩, rfl⟩)
      · have c_40 : ¬ (240 ≤ u4) := of_decide_eq_false c_40
        refine ml_st (S' := (44, [(2, .int u4), (0, .ref r), (1, .int x1)], [.ref r], M)) rfl rfl rfl ?_
        refine tg_ref (S' := (47, [(2, .int u4), (0, .ref r), (1, .int x1)], [.ref b], M)) rfl hS.1 hY0 (by decide) rfl rfl ?_
        refine ml_st (S' := (48, [(2, .int u4), (0, .ref r), (1, .int x1)], [.ref r, .ref b], M)) rfl rfl rfl ?_
        refine ml_get (S' := (51, [(2, .int u4), (0, .ref r), (1, .int x1)], [.int a0, .ref b], M)) rfl hr3 rfl ?_
        refine ml_blk 3 (S' := (54, [(2, .int u4), (0, .ref r), (1, .int x1)], [.int x1, .int (a0 + 1), .ref b], M)) rfl ?_
        refine ml_call (a := [.ref b, .int (a0 + 1), .int x1]) (rest := []) rfl (okc_t rfl rfl rfl hS.1 hY2 (by decide)) rfl rfl (ct_goesOn (hS.1.bytes hY2).1 (by omega)) (fun v5 M6 h7 => ?_)
        obtain ⟨rfl, h7⟩ := h7
        rw [h7]
        show ml _ _ _ (57, [(2, .int u4), (0, .ref r), (1, .int x1)], [.int (sp_goesOn n (Y.2 da) (a0 + 1) x1)], M) _
        refine ml_if (S1 := (62, [(2, .int u4), (0, .ref r), (1, .int x1)], [], M)) (S2 := (60, [], [], M)) rfl rfl rfl (fun c_57 => ?_) (fun c_57 => ?_)
        · have c_57 : ¬ (sp_goesOn n (Y.2 da) (a0 + 1) x1) = 0 := of_decide_eq_true c_57
          refine ml_blk 2 (S' := (66, [(2, .int u4), (0, .ref r), (1, .int x1)], [.int 224, .int u4], M)) rfl ?_
          refine ml_if2 (S1 := (71, [(2, .int u4), (0, .ref r), (1, .int x1)], [], M)) (S2 := (69, [(2, .int u4), (0, .ref r), (1, .int x1)], [], M)) rfl rfl rfl (fun c_66 => ?_) (fun c_66 => ?_)
          · have c_66 : 224 ≤ u4 := of_decide_eq_true c_66
            refine ml_st (S' := (72, [(2, .int u4), (0, .ref r), (1, .int x1)], [.ref r], M)) rfl rfl rfl ?_
            refine tg_ref (S' := (75, [(2, .int u4), (0, .ref r), (1, .int x1)], [.ref b], M)) rfl hS.1 hY0 (by decide) rfl rfl ?_
            refine ml_st (S' := (76, [(2, .int u4), (0, .ref r), (1, .int x1)], [.ref r, .ref b], M)) rfl rfl rfl ?_
            refine ml_get (S' := (79, [(2, .int u4), (0, .ref r), (1, .int x1)], [.int a0, .ref b], M)) rfl hr3 rfl ?_
            refine ml_blk 3 (S' := (82, [(2, .int u4), (0, .ref r), (1, .int x1)], [.int x1, .int (a0 + 2), .ref b], M)) rfl ?_
            refine ml_call (a := [.ref b, .int (a0 + 2), .int x1]) (rest := []) rfl (okc_t rfl rfl rfl hS.1 hY2 (by decide)) rfl rfl (ct_goesOn (hS.1.bytes hY2).1 (by omega)) (fun v8 M9 h10 => ?_)
            obtain ⟨rfl, h10⟩ := h10
            rw [h10]
            show ml _ _ _ (85, [(2, .int u4), (0, .ref r), (1, .int x1)], [.int (sp_goesOn n (Y.2 da) (a0 + 2) x1)], M) _
            refine ml_if (S1 := (92, [(2, .int u4), (0, .ref r), (1, .int x1)], [], M)) (S2 := (88, [(2, .int u4), (0, .ref r), (1, .int x1)], [], M)) rfl rfl rfl (fun c_85 => ?_) (fun c_85 => ?_)
            · have c_85 : (sp_goesOn n (Y.2 da) (a0 + 2) x1) = 0 := of_decide_eq_true c_85
              refine ml_st (S' := (93, [], [.int 0], M)) rfl rfl rfl ?_
              exact ml_ret rfl (rfl) (⟨⟨_, rfl, Or.inl rfl⟩, rfl⟩)
            · have c_85 : ¬ ((sp_goesOn n (Y.2 da) (a0 + 2) x1) = 0) := of_decide_eq_false c_85
              refine ml_st (S' := (89, [(2, .int u4), (0, .ref r), (1, .int x1)], [.int 3], M)) rfl rfl rfl ?_
              refine ml_st (S' := (93, [], [.int 3], M)) rfl rfl rfl ?_
              exact ml_ret rfl (rfl) (⟨⟨_, rfl, Or.inr ⟨by decide, by have e := goesOn_lt c_85; have e1 := i_lt e; rw [(add_k (k := 2) h0 h1 hn (by decide) (by decide))] at e1; have : (3 : Int32).toInt = 3 := rfl; have : (2 : Int32).toInt = 2 := rfl; omega⟩⟩, rfl⟩)
          · have c_66 : ¬ (224 ≤ u4) := of_decide_eq_false c_66
            refine ml_st (S' := (70, [(2, .int u4), (0, .ref r), (1, .int x1)], [.int 2], M)) rfl rfl rfl ?_
            exact ml_ret rfl (rfl) (⟨⟨_, rfl, Or.inr ⟨by decide, by have e := goesOn_lt c_57; have e1 := i_lt e; rw [(add_k (k := 1) h0 h1 hn (by decide) (by decide))] at e1; have : (1 : Int32).toInt = 1 := rfl; have : (2 : Int32).toInt = 2 := rfl; omega⟩⟩, rfl⟩)
        · have c_57 : ¬ (¬ (sp_goesOn n (Y.2 da) (a0 + 1) x1) = 0) := of_decide_eq_false c_57
          refine ml_st (S' := (61, [], [.int 0], M)) rfl rfl rfl ?_
          exact ml_ret rfl (rfl) (⟨⟨_, rfl, Or.inl rfl⟩, rfl⟩)
  · have c_16 : ¬ (128 ≤ u4) := of_decide_eq_false c_16
    refine ml_st (S' := (20, [(2, .int u4), (0, .ref r), (1, .int x1)], [.int u4], M)) rfl rfl rfl ?_
    refine ml_if (S1 := (27, [(2, .int u4), (0, .ref r), (1, .int x1)], [], M)) (S2 := (23, [(2, .int u4), (0, .ref r), (1, .int x1)], [], M)) rfl rfl rfl (fun c_20 => ?_) (fun c_20 => ?_)
    · have c_20 : ¬ u4 = 0 := of_decide_eq_true c_20
      refine ml_st (S' := (28, [], [.int 1], M)) rfl rfl rfl ?_
      exact ml_ret rfl (rfl) (⟨⟨_, rfl, Or.inr ⟨by decide, by have := i_lt hlt; have : (1 : Int32).toInt = 1 := rfl; omega⟩⟩, rfl⟩)
    · have c_20 : ¬ (¬ u4 = 0) := of_decide_eq_false c_20
      refine ml_st (S' := (24, [(2, .int u4), (0, .ref r), (1, .int x1)], [.int 0], M)) rfl rfl rfl ?_
      refine ml_st (S' := (28, [], [.int 0], M)) rfl rfl rfl ?_
      exact ml_ret rfl (rfl) (⟨⟨_, rfl, Or.inl rfl⟩, rfl⟩)
theorem a1_of {f : Nat → Int32} {n : Nat} {a : Int32} (hn : n < 1073741824) (h0 : 0 ≤ a.toInt) (h2 : a.toInt + (2 : Int32).toInt ≤ n) (h4 : (a + 2).toInt + (4 : Int32).toInt ≤ n) (c1 : ¬ sp_u4 n f (a + 2) < 0) (c2 : sp_u4 n f (a + 2) ≤ nI n - (a + 2 + 4)) : a1 f n a (a + 2 + 4 + sp_u4 n f (a + 2)) ∧ 0 ≤ (a + 2 + 4 + sp_u4 n f (a + 2)).toInt ∧ (a + 2 + 4 + sp_u4 n f (a + 2)).toInt ≤ n := by
  have e2 : (2 : Int32).toInt = 2 := rfl
  have e4 : (4 : Int32).toInt = 4 := rfl
  have d2 : (a + 2).toInt = a.toInt + 2 := by rw [i_add (by omega) (by omega), e2]
  have d4 : (a + 2 + 4).toInt = a.toInt + 6 := by rw [i_add (by omega) (by omega), d2, e4]; omega
  have d6 : a + 2 + 4 = a + 6 := by rw [Int32.add_assoc]; rfl
  have b1 := nneg c1
  obtain ⟨b2, b3⟩ := le_room hn (by omega) (by omega) b1 c2
  exact ⟨⟨h0, by omega, b1, by omega, by rw [d6]⟩, by omega, by omega⟩

theorem an_end {f : Nat → Int32} {n : Nat} {i N a a' : Int32} (h : an f n i.toInt.toNat a a') (h1 : i.toInt ≤ N.toInt) (h2 : N ≤ i) : an f n N.toInt.toNat a a' := by
  have h3 := i_le h2
  rwa [show N.toInt.toNat = i.toInt.toNat by omega]
theorem an_inc {f : Nat → Int32} {n : Nat} {i N a a' a'' : Int32} (h0 : 0 ≤ i.toInt) (hc : ¬ N ≤ i) (h : an f n i.toInt.toNat a a') (h1 : a1 f n a' a'') : an f n (i + 1).toInt.toNat a a'' := by
  rw [inc_lt (Int32.not_le.mp hc), show (i.toInt + 1).toNat = i.toInt.toNat + 1 by omega]
  exact ⟨a', h, h1⟩
def qA (g : xe_G) (Y : yT) (r vd da n : Nat) (a : Int32) (M : mi_H) : Option Value → mi_H → Prop := fun v M' => (∃ x : Int32, v = some (.int x) ∧ (x = 0 ∨ x = 1 ∧ a.toInt + 2 ≤ n ∧ AW (Y.2 da) n (sp_u2 n (Y.2 da) a).toInt.toNat (a + 2))) ∧ sf g Y [r, vd] M M'

set_option maxHeartbeats 2000000 in
theorem tr_takesAttributes {g : xe_G} {M : mi_H} {Y : yT} {r c b vd n da : Nat} {a0 : Int32} (hW : WF g Y M) (hY0 : Y.1 r = some (9, [c, b, vd, n])) (hY1 : Y.1 c = some (3, [b, da, n])) (hY2 : Y.1 b = some (1, [da, n])) (hY3 : Y.1 vd = some (10, [])) (hr3 : mi_gf M r 9 3 = some (.int a0)) {d : Nat} (hd : 3 ≤ d) : mt (mT g) d 160 [.ref r] M (qA g Y r vd da n a0 M) := by
  obtain ⟨d, rfl⟩ : ∃ e, d = e + 1 := ⟨d - 1, by omega⟩
  have hS : sf g Y [r, vd] M M := sf.rf hW
  refine mt_in (b := mb_160 g) rfl rfl ?_
  show ml (mT g) d (mb_160 g).2 (0, [(0, .ref r)], [], M) _
  obtain ⟨h0, h1⟩ := hW.rdb hY0 hr3
  have hn := hW.bn hY2
  refine ml_blk 2 (S' := (2, [(0, .ref r)], [.int 2, .ref r], M)) rfl ?_
  refine ml_call (a := [.ref r, .int 2]) (rest := []) rfl (okc_t rfl rfl rfl hS.1.1 hY0 (by decide)) rfl rfl (tr_takes hS.1.1 hY0 hY1 hY2 hY3 hr3 (by decide) (by omega)) (fun v1 M2 h3 => ?_)
  obtain ⟨⟨u4, rfl, z5⟩, h3⟩ := h3
  have hS6 := hS.tr h3 (by simp)
  show ml _ _ _ (5, [(0, .ref r)], [.int u4], M2) _
  refine ml_if (S1 := (10, [(0, .ref r)], [], M2)) (S2 := (8, [(0, .ref r)], [], M2)) rfl rfl rfl (fun c_5 => ?_) (fun c_5 => ?_)
  · have c_5 : ¬ u4 = 0 := of_decide_eq_true c_5
    have t7 := z5.resolve_left c_5
    have ha2 := t7.2.1
    refine ml_st (S' := (11, [(0, .ref r)], [.ref r], M2)) rfl rfl rfl ?_
    refine ml_get (S' := (14, [(0, .ref r)], [.int (sp_u2 n (Y.2 da) a0)], M2)) rfl t7.2.2.2 rfl ?_
    refine ml_st (S' := (15, [(1, .int (sp_u2 n (Y.2 da) a0)), (0, .ref r)], [], M2)) rfl rfl rfl ?_
    refine ml_st (S' := (16, [(1, .int (sp_u2 n (Y.2 da) a0)), (0, .ref r)], [.int 0], M2)) rfl rfl rfl ?_
    refine ml_st (S' := (17, [(0, .ref r), (1, .int (sp_u2 n (Y.2 da) a0)), (2, .int 0)], [], M2)) rfl rfl rfl ?_
    have L_17 : ∀ (n_17 : Nat) (i17_2 : Int32) (a17 : Int32) (M_17 : mi_H), (2147483648 - i17_2.toInt).toNat ≤ n_17 → (0 ≤ i17_2.toInt ∧ mi_gf M_17 r 9 3 = some (.int a17) ∧ i17_2.toInt ≤ (sp_u2 n (Y.2 da) a0).toInt ∧ an (Y.2 da) n i17_2.toInt.toNat (a0 + 2) a17) → sf g Y [r, vd] M M_17 → ml (mT g) d (mb_160 g).2 (17, [(0, .ref r), (1, .int (sp_u2 n (Y.2 da) a0)), (2, .int i17_2)], [], M_17) (qA g Y r vd da n a0 M) := by
      intro n_17
      induction n_17 with
      | zero => intro i17_2 a17 M_17 hn; exact (loop_zero hn).elim
      | succ n_17 ih_17 =>
        intro i17_2 a17 M_17 hn_17 hi_17 hS_17
        have hb_17 := hS_17.1.1.rdb hY0 hi_17.2.1
        refine ml_blk 2 (S' := (19, [(0, .ref r), (1, .int (sp_u2 n (Y.2 da) a0)), (2, .int i17_2)], [.int (sp_u2 n (Y.2 da) a0), .int i17_2], M_17)) rfl ?_
        refine ml_if2 (S1 := (98, [(0, .ref r), (1, .int (sp_u2 n (Y.2 da) a0)), (2, .int i17_2)], [], M_17)) (S2 := (22, [(0, .ref r), (1, .int (sp_u2 n (Y.2 da) a0)), (2, .int i17_2)], [], M_17)) rfl rfl rfl (fun c_19 => ?_) (fun c_19 => ?_)
        · have c_19 : (sp_u2 n (Y.2 da) a0) ≤ i17_2 := of_decide_eq_true c_19
          refine ml_st (S' := (99, [(0, .ref r), (1, .int (sp_u2 n (Y.2 da) a0)), (2, .int i17_2)], [.int 1], M_17)) rfl rfl rfl ?_
          exact ml_ret rfl (r_z (Or.inr rfl)) (⟨⟨_, rfl, Or.inr ⟨rfl, ha2, an.all (an_end hi_17.2.2.2 hi_17.2.2.1 c_19) hb_17.1 hb_17.2⟩⟩, hS_17⟩)
        · have c_19 : ¬ ((sp_u2 n (Y.2 da) a0) ≤ i17_2) := of_decide_eq_false c_19
          refine ml_blk 2 (S' := (24, [(0, .ref r), (1, .int (sp_u2 n (Y.2 da) a0)), (2, .int i17_2)], [.int 2, .ref r], M_17)) rfl ?_
          refine ml_call (a := [.ref r, .int 2]) (rest := []) rfl (okc_t rfl rfl rfl hS_17.1.1 hY0 (by decide)) rfl rfl (tr_takes hS_17.1.1 hY0 hY1 hY2 hY3 hi_17.2.1 (by decide) (by omega)) (fun v8 M9 h10 => ?_)
          obtain ⟨⟨u11, rfl, z12⟩, h10⟩ := h10
          have hS13 := hS_17.tr h10 (by simp)
          show ml _ _ _ (27, [(0, .ref r), (1, .int (sp_u2 n (Y.2 da) a0)), (2, .int i17_2)], [.int u11], M9) _
          refine ml_if (S1 := (38, [], [], M9)) (S2 := (30, [(0, .ref r), (1, .int (sp_u2 n (Y.2 da) a0)), (2, .int i17_2)], [], M9)) rfl rfl rfl (fun c_27 => ?_) (fun c_27 => ?_)
          · have c_27 : u11 = 0 := of_decide_eq_true c_27
            refine ml_st (S' := (39, [], [.int 0], M9)) rfl rfl rfl ?_
            exact ml_ret rfl (r_z (Or.inl rfl)) (⟨⟨_, rfl, Or.inl rfl⟩, hS13⟩)
          · have c_27 : ¬ (u11 = 0) := of_decide_eq_false c_27
            have t14 := z12.resolve_left c_27
            refine ml_blk 2 (S' := (32, [(0, .ref r), (1, .int (sp_u2 n (Y.2 da) a0)), (2, .int i17_2)], [.int 4, .ref r], M9)) rfl ?_
            refine ml_call (a := [.ref r, .int 4]) (rest := []) rfl (okc_t rfl rfl rfl hS13.1.1 hY0 (by decide)) rfl rfl (tr_takes hS13.1.1 hY0 hY1 hY2 hY3 t14.2.2.1 (by decide) (by omega)) (fun v15 M16 h17 => ?_)
            obtain ⟨⟨u18, rfl, z19⟩, h17⟩ := h17
            have hS20 := hS13.tr h17 (by simp)
            show ml _ _ _ (35, [(0, .ref r), (1, .int (sp_u2 n (Y.2 da) a0)), (2, .int i17_2)], [.int u18], M16) _
            refine ml_if (S1 := (40, [(0, .ref r), (1, .int (sp_u2 n (Y.2 da) a0)), (2, .int i17_2)], [], M16)) (S2 := (38, [], [], M16)) rfl rfl rfl (fun c_35 => ?_) (fun c_35 => ?_)
            · have c_35 : ¬ u18 = 0 := of_decide_eq_true c_35
              have t21 := z19.resolve_left c_35
              have ht2 := t14.2.1
              have ht4 := t21.2.1
              refine ml_st (S' := (41, [(0, .ref r), (1, .int (sp_u2 n (Y.2 da) a0)), (2, .int i17_2)], [.ref r], M16)) rfl rfl rfl ?_
              refine ml_get (S' := (44, [(0, .ref r), (1, .int (sp_u2 n (Y.2 da) a0)), (2, .int i17_2)], [.int (sp_u4 n (Y.2 da) (a17 + 2))], M16)) rfl t21.2.2.2 rfl ?_
              refine ml_if (S1 := (66, [(0, .ref r)], [], M16)) (S2 := (47, [(0, .ref r), (1, .int (sp_u2 n (Y.2 da) a0)), (2, .int i17_2)], [], M16)) rfl rfl rfl (fun c_44 => ?_) (fun c_44 => ?_)
              · have c_44 : (sp_u4 n (Y.2 da) (a17 + 2)) < 0 := of_decide_eq_true c_44
                refine ml_st (S' := (67, [(0, .ref r)], [.ref r], M16)) rfl rfl rfl ?_
                refine tg_ref (S' := (70, [(0, .ref r)], [.ref vd], M16)) rfl hS20.1.1 hY0 (by decide) rfl rfl ?_
                refine ml_blk 2 (S' := (72, [(0, .ref r)], [.ref r, .int 1, .ref vd], M16)) rfl ?_
                refine ml_get (S' := (75, [(0, .ref r)], [.int (a17 + 2 + 4), .int 1, .ref vd], M16)) rfl t21.2.2.1 rfl ?_
                refine ml_call (a := [.ref vd, .int 1, .int (a17 + 2 + 4)]) (rest := []) rfl (okc_t rfl rfl rfl hS20.1.1 hY3 (by decide)) rfl rfl (tw_Ve_wrong hS20.1.1 hY3 (by omega)) (fun v22 M23 h24 => ?_)
                obtain ⟨rfl, h24⟩ := h24
                have g26 := h24.2.gf (nin_cons (ykne hY0 hY3 (by decide)) nin_nil) t21.2.2.1
                have g27 := h24.2.gf (nin_cons (ykne hY0 hY3 (by decide)) nin_nil) t21.2.2.2
                have hS28 := hS20.tr h24 (by simp)
                show ml _ _ _ (78, [(0, .ref r)], [.int 0], M23) _
                exact ml_ret rfl (r_z (Or.inl rfl)) (⟨⟨_, rfl, Or.inl rfl⟩, hS28⟩)
              · have c_44 : ¬ ((sp_u4 n (Y.2 da) (a17 + 2)) < 0) := of_decide_eq_false c_44
                refine ml_st (S' := (48, [(0, .ref r), (1, .int (sp_u2 n (Y.2 da) a0)), (2, .int i17_2)], [.ref r], M16)) rfl rfl rfl ?_
                refine ml_get (S' := (51, [(0, .ref r), (1, .int (sp_u2 n (Y.2 da) a0)), (2, .int i17_2)], [.int (sp_u4 n (Y.2 da) (a17 + 2))], M16)) rfl t21.2.2.2 rfl ?_
                refine ml_st (S' := (52, [(0, .ref r), (1, .int (sp_u2 n (Y.2 da) a0)), (2, .int i17_2)], [.ref r, .int (sp_u4 n (Y.2 da) (a17 + 2))], M16)) rfl rfl rfl ?_
                refine tg_ref (S' := (55, [(0, .ref r), (1, .int (sp_u2 n (Y.2 da) a0)), (2, .int i17_2)], [.ref b, .int (sp_u4 n (Y.2 da) (a17 + 2))], M16)) rfl hS20.1.1 hY0 (by decide) rfl rfl ?_
                refine ml_call (a := [.ref b]) (rest := [.int (sp_u4 n (Y.2 da) (a17 + 2))]) rfl (okc_t rfl rfl rfl hS20.1.1 hY2 (by decide)) rfl rfl (ct_size (hS20.1.1.bytes hY2).1 (by omega)) (fun v29 M30 h31 => ?_)
                obtain ⟨rfl, h31⟩ := h31
                rw [h31]
                show ml _ _ _ (58, [(0, .ref r), (1, .int (sp_u2 n (Y.2 da) a0)), (2, .int i17_2)], [.int (nI n), .int (sp_u4 n (Y.2 da) (a17 + 2))], M16) _
                refine ml_st (S' := (59, [(0, .ref r), (1, .int (sp_u2 n (Y.2 da) a0)), (2, .int i17_2)], [.ref r, .int (nI n), .int (sp_u4 n (Y.2 da) (a17 + 2))], M16)) rfl rfl rfl ?_
                refine ml_get (S' := (62, [(0, .ref r), (1, .int (sp_u2 n (Y.2 da) a0)), (2, .int i17_2)], [.int (a17 + 2 + 4), .int (nI n), .int (sp_u4 n (Y.2 da) (a17 + 2))], M16)) rfl t21.2.2.1 rfl ?_
                refine ml_st (S' := (63, [(0, .ref r), (1, .int (sp_u2 n (Y.2 da) a0)), (2, .int i17_2)], [.int ((nI n) - (a17 + 2 + 4)), .int (sp_u4 n (Y.2 da) (a17 + 2))], M16)) rfl rfl rfl ?_
                refine ml_if2 (S1 := (79, [(0, .ref r), (1, .int (sp_u2 n (Y.2 da) a0)), (2, .int i17_2)], [], M16)) (S2 := (66, [(0, .ref r)], [], M16)) rfl rfl rfl (fun c_63 => ?_) (fun c_63 => ?_)
                · have c_63 : (sp_u4 n (Y.2 da) (a17 + 2)) ≤ ((nI n) - (a17 + 2 + 4)) := of_decide_eq_true c_63
                  refine ml_blk 2 (S' := (81, [(0, .ref r), (1, .int (sp_u2 n (Y.2 da) a0)), (2, .int i17_2)], [.ref r, .ref r], M16)) rfl ?_
                  refine ml_get (S' := (84, [(0, .ref r), (1, .int (sp_u2 n (Y.2 da) a0)), (2, .int i17_2)], [.int (a17 + 2 + 4), .ref r], M16)) rfl t21.2.2.1 rfl ?_
                  refine ml_st (S' := (85, [(0, .ref r), (1, .int (sp_u2 n (Y.2 da) a0)), (2, .int i17_2)], [.ref r, .int (a17 + 2 + 4), .ref r], M16)) rfl rfl rfl ?_
                  refine ml_get (S' := (88, [(0, .ref r), (1, .int (sp_u2 n (Y.2 da) a0)), (2, .int i17_2)], [.int (sp_u4 n (Y.2 da) (a17 + 2)), .int (a17 + 2 + 4), .ref r], M16)) rfl t21.2.2.2 rfl ?_
                  refine ml_st (S' := (89, [(0, .ref r), (1, .int (sp_u2 n (Y.2 da) a0)), (2, .int i17_2)], [.int ((a17 + 2 + 4) + (sp_u4 n (Y.2 da) (a17 + 2))), .ref r], M16)) rfl rfl rfl ?_
                  refine tp_putx rfl hS20.1 hY0 (by decide) rfl (⟨_, rfl⟩) rfl (fun l hl _ => xtr_at hl (a1_of hn hb_17.1 ht2 ht4 c_44 c_63).2.1 (a1_of hn hb_17.1 ht2 ht4 c_44 c_63).2.2) (fun M32 hS33 f34 => ?_)
                  have hS35 := hS20.put hS33 f34 (by simp)
                  have g36 := f34.2.1 4 _ (by decide) t21.2.2.2
                  show ml _ _ _ (92, [(0, .ref r), (1, .int (sp_u2 n (Y.2 da) a0)), (2, .int i17_2)], [], M32) _
                  refine ml_st (S' := (95, [(2, .int (i17_2 + 1)), (0, .ref r), (1, .int (sp_u2 n (Y.2 da) a0))], [], M32)) rfl rfl rfl ?_
                  refine ml_st (S' := (17, [(0, .ref r), (1, .int (sp_u2 n (Y.2 da) a0)), (2, .int (i17_2 + 1))], [], M32)) rfl rfl rfl ?_
                  exact ih_17 (i17_2 + 1) ((a17 + 2 + 4) + (sp_u4 n (Y.2 da) (a17 + 2))) _ (loop_inc (Int32.not_le.mp c_19) hn_17) (⟨by rw [inc_lt (Int32.not_le.mp c_19)]; have := hi_17.1; omega, f34.2.2.1, by rw [inc_lt (Int32.not_le.mp c_19)]; have := i_nle c_19; omega, an_inc hi_17.1 c_19 hi_17.2.2.2 (a1_of hn hb_17.1 ht2 ht4 c_44 c_63).1⟩) hS35
                · have c_63 : ¬ ((sp_u4 n (Y.2 da) (a17 + 2)) ≤ ((nI n) - (a17 + 2 + 4))) := of_decide_eq_false c_63
                  refine ml_st (S' := (67, [(0, .ref r)], [.ref r], M16)) rfl rfl rfl ?_
                  refine tg_ref (S' := (70, [(0, .ref r)], [.ref vd], M16)) rfl hS20.1.1 hY0 (by decide) rfl rfl ?_
                  refine ml_blk 2 (S' := (72, [(0, .ref r)], [.ref r, .int 1, .ref vd], M16)) rfl ?_
                  refine ml_get (S' := (75, [(0, .ref r)], [.int (a17 + 2 + 4), .int 1, .ref vd], M16)) rfl t21.2.2.1 rfl ?_
                  refine ml_call (a := [.ref vd, .int 1, .int (a17 + 2 + 4)]) (rest := []) rfl (okc_t rfl rfl rfl hS20.1.1 hY3 (by decide)) rfl rfl (tw_Ve_wrong hS20.1.1 hY3 (by omega)) (fun v37 M38 h39 => ?_)
                  obtain ⟨rfl, h39⟩ := h39
                  have g41 := h39.2.gf (nin_cons (ykne hY0 hY3 (by decide)) nin_nil) t21.2.2.1
                  have g42 := h39.2.gf (nin_cons (ykne hY0 hY3 (by decide)) nin_nil) t21.2.2.2
                  have hS43 := hS20.tr h39 (by simp)
                  show ml _ _ _ (78, [(0, .ref r)], [.int 0], M38) _
                  exact ml_ret rfl (r_z (Or.inl rfl)) (⟨⟨_, rfl, Or.inl rfl⟩, hS43⟩)
            · have c_35 : ¬ (¬ u18 = 0) := of_decide_eq_false c_35
              refine ml_st (S' := (39, [], [.int 0], M16)) rfl rfl rfl ?_
              exact ml_ret rfl (r_z (Or.inl rfl)) (⟨⟨_, rfl, Or.inl rfl⟩, hS20⟩)
    exact L_17 _ 0 (a0 + 2) _ (Nat.le_refl _) (⟨by decide, t7.2.2.1, by show (0 : Int) ≤ _; exact u2_pos, rfl⟩) hS6
  · have c_5 : ¬ (¬ u4 = 0) := of_decide_eq_false c_5
    refine ml_st (S' := (9, [(0, .ref r)], [.int 0], M2)) rfl rfl rfl ?_
    exact ml_ret rfl (r_z (Or.inl rfl)) (⟨⟨_, rfl, Or.inl rfl⟩, hS6⟩)
set_option maxHeartbeats 2000000 in
theorem tr_takesEnd {g : xe_G} {M : mi_H} {Y : yT} {r c b vd n da : Nat}  (hW : WF g Y M) (hY0 : Y.1 r = some (9, [c, b, vd, n])) (hY1 : Y.1 c = some (3, [b, da, n])) (hY2 : Y.1 b = some (1, [da, n])) (hY3 : Y.1 vd = some (10, [])) {d : Nat} (hd : 4 ≤ d) : mt (mT g) d 162 [.ref r] M (qZ g Y M) := by
  obtain ⟨d, rfl⟩ : ∃ e, d = e + 1 := ⟨d - 1, by omega⟩
  have hS : st g Y M M := st.rf hW
  refine mt_in (b := mb_162 g) rfl rfl ?_
  show ml (mT g) d (mb_162 g).2 (0, [(0, .ref r)], [], M) _
  refine ml_st (S' := (1, [(0, .ref r)], [.ref r], M)) rfl rfl rfl ?_
  refine tg_ref (S' := (4, [(0, .ref r)], [.ref c], M)) rfl hS.1 hY0 (by decide) rfl rfl ?_
  refine ml_st (S' := (5, [(0, .ref r)], [.ref r, .ref c], M)) rfl rfl rfl ?_
  refine tg_ref (S' := (8, [(0, .ref r)], [.ref b, .ref c], M)) rfl hS.1 hY0 (by decide) rfl rfl ?_
  refine ml_st (S' := (9, [(0, .ref r)], [.ref r, .ref b, .ref c], M)) rfl rfl rfl ?_
  refine tg_int rfl hS.1 hY0 (by decide) rfl (fun u1 g2 => ?_)
  show ml _ _ _ (12, [(0, .ref r)], [.int u1, .ref b, .ref c], M) _
  refine ml_call (a := [.ref b, .int u1]) (rest := [.ref c]) rfl (okc_t rfl rfl rfl hS.1 hY2 (by decide)) rfl rfl (tq_u2 hS.1 hY2 (by omega)) (fun v3 M4 h5 => ?_)
  obtain ⟨⟨u6, rfl⟩, h5⟩ := h5
  rw [h5]
  show ml _ _ _ (15, [(0, .ref r)], [.int u6, .ref c], M) _
  refine tp_put rfl hS hY1 (by decide) rfl (⟨_, rfl⟩) rfl rfl (fun M7 hS8 f9 => ?_)
  show ml _ _ _ (18, [(0, .ref r)], [], M7) _
  refine ml_st (S' := (19, [(0, .ref r)], [.ref r], M7)) rfl rfl rfl ?_
  refine tg_ref (S' := (22, [(0, .ref r)], [.ref c], M7)) rfl hS8.1 hY0 (by decide) rfl rfl ?_
  refine ml_st (S' := (23, [(0, .ref r)], [.ref r, .ref c], M7)) rfl rfl rfl ?_
  refine tg_int rfl hS8.1 hY0 (by decide) rfl (fun u10 g11 => ?_)
  show ml _ _ _ (26, [(0, .ref r)], [.int u10, .ref c], M7) _
  refine ml_blk 2 (S' := (28, [(0, .ref r)], [.int (u10 + 2), .ref c], M7)) rfl ?_
  refine tp_put rfl hS8 hY1 (by decide) rfl (⟨_, rfl⟩) rfl rfl (fun M12 hS13 f14 => ?_)
  show ml _ _ _ (31, [(0, .ref r)], [], M12) _
  refine ml_st (S' := (32, [(0, .ref r)], [.ref r], M12)) rfl rfl rfl ?_
  obtain ⟨u15, g16, -⟩ := hS13.1.rd hY0
  refine ml_call (a := [.ref r]) (rest := []) rfl (okc_t rfl rfl rfl hS13.1 hY0 (by decide)) rfl rfl (tr_takesAttributes hS13.1 hY0 hY1 hY2 hY3 g16 (by omega)) (fun v17 M18 h19 => ?_)
  obtain ⟨⟨u20, rfl, z21⟩, h19⟩ := h19
  have hS22 := hS13.tr h19.1
  show ml _ _ _ (35, [(0, .ref r)], [.int u20], M18) _
  refine ml_if (S1 := (40, [(0, .ref r)], [], M18)) (S2 := (38, [(0, .ref r)], [], M18)) rfl rfl rfl (fun c_35 => ?_) (fun c_35 => ?_)
  · have c_35 : ¬ u20 = 0 := of_decide_eq_true c_35
    refine ml_st (S' := (41, [(0, .ref r)], [.ref r], M18)) rfl rfl rfl ?_
    refine tg_int rfl hS22.1 hY0 (by decide) rfl (fun u23 g24 => ?_)
    show ml _ _ _ (44, [(0, .ref r)], [.int u23], M18) _
    refine ml_st (S' := (45, [(0, .ref r)], [.ref r, .int u23], M18)) rfl rfl rfl ?_
    refine tg_ref (S' := (48, [(0, .ref r)], [.ref b, .int u23], M18)) rfl hS22.1 hY0 (by decide) rfl rfl ?_
    refine ml_call (a := [.ref b]) (rest := [.int u23]) rfl (okc_t rfl rfl rfl hS22.1 hY2 (by decide)) rfl rfl (tq_size hS22.1 hY2 (by omega)) (fun v25 M26 h27 => ?_)
    obtain ⟨⟨u28, rfl⟩, h27⟩ := h27
    rw [h27]
    show ml _ _ _ (51, [(0, .ref r)], [.int u28, .int u23], M18) _
    refine ml_if2 (S1 := (70, [], [], M18)) (S2 := (54, [(0, .ref r)], [], M18)) rfl rfl rfl (fun c_51 => ?_) (fun c_51 => ?_)
    · have c_51 : u23 = u28 := of_decide_eq_true c_51
      refine ml_st (S' := (71, [], [.int 1], M18)) rfl rfl rfl ?_
      refine ml_st (S' := (75, [], [.int 1], M18)) rfl rfl rfl ?_
      exact ml_ret rfl (r_z (Or.inr rfl)) (⟨⟨_, rfl, Or.inr rfl⟩, hS22⟩)
    · have c_51 : ¬ (u23 = u28) := of_decide_eq_false c_51
      refine ml_st (S' := (55, [(0, .ref r)], [.ref r], M18)) rfl rfl rfl ?_
      refine tg_ref (S' := (58, [(0, .ref r)], [.ref vd], M18)) rfl hS22.1 hY0 (by decide) rfl rfl ?_
      refine ml_blk 2 (S' := (61, [(0, .ref r)], [.ref r, .int 8, .ref vd], M18)) rfl ?_
      refine ml_get (S' := (64, [(0, .ref r)], [.int u23, .int 8, .ref vd], M18)) rfl g24 rfl ?_
      refine ml_call (a := [.ref vd, .int 8, .int u23]) (rest := []) rfl (okc_t rfl rfl rfl hS22.1 hY3 (by decide)) rfl rfl (tw_Ve_wrong hS22.1 hY3 (by omega)) (fun v29 M30 h31 => ?_)
      obtain ⟨rfl, h31⟩ := h31
      have hS33 := hS22.tr h31.1
      show ml _ _ _ (67, [(0, .ref r)], [.int 0], M30) _
      refine ml_if (S1 := (74, [(0, .ref r)], [], M30)) (S2 := (70, [], [], M30)) rfl rfl rfl (fun c_67 => ?_) (fun c_67 => ?_)
      · have c_67 : 0 = 0 := of_decide_eq_true c_67
        refine ml_st (S' := (75, [], [.int 0], M30)) rfl rfl rfl ?_
        exact ml_ret rfl (r_z (Or.inl rfl)) (⟨⟨_, rfl, Or.inl rfl⟩, hS33⟩)
      · have c_67 : ¬ (0 = 0) := of_decide_eq_false c_67
        refine ml_st (S' := (71, [], [.int 1], M30)) rfl rfl rfl ?_
        refine ml_st (S' := (75, [], [.int 1], M30)) rfl rfl rfl ?_
        exact ml_ret rfl (r_z (Or.inr rfl)) (⟨⟨_, rfl, Or.inr rfl⟩, hS33⟩)
  · have c_35 : ¬ (¬ u20 = 0) := of_decide_eq_false c_35
    refine ml_st (S' := (39, [(0, .ref r)], [.int 0], M18)) rfl rfl rfl ?_
    exact ml_ret rfl (r_z (Or.inl rfl)) (⟨⟨_, rfl, Or.inl rfl⟩, hS22⟩)
