/-! a file is taken apart (laid by wip/p2/c55.py) -/
set_option maxHeartbeats 2000000 in
theorem tm_describeTexts {g : xe_G} {M : mi_H} {Y : yT} {p np mp t tp f s sh ch : Nat}  (hW : WF g Y M) (hY0 : Y.1 p = some (7, [np, mp, t, tp, f, s, sh, ch])) {d : Nat} (hd : 5 ≤ d) : mt (mT g) d 114 [.ref p] M (qV g Y M) := by
  obtain ⟨d, rfl⟩ : ∃ e, d = e + 1 := ⟨d - 1, by omega⟩
  have hS : st g Y M M := st.rf hW
  refine mt_in (b := mb_114 g) rfl rfl ?_
  show ml (mT g) d (mb_114 g).2 (0, [(0, .ref p)], [], M) _
  obtain ⟨hyt, hytp, hyf, hys, hysh, hych⟩ := hW.prows hY0
  refine ml_st (S' := (1, [(0, .ref p)], [.int 0], M)) rfl rfl rfl ?_
  refine ml_st (S' := (2, [(0, .ref p), (1, .int 0)], [], M)) rfl rfl rfl ?_
  have L_2 : ∀ (n_2 : Nat) (i2_1 : Int32) (M_2 : mi_H), (2147483648 - i2_1.toInt).toNat ≤ n_2 → 0 ≤ i2_1.toInt → st g Y M M_2 → ml (mT g) d (mb_114 g).2 (2, [(0, .ref p), (1, .int i2_1)], [], M_2) (qV g Y M) := by
    intro n_2
    induction n_2 with
    | zero => intro i2_1 M_2 hn; exact (loop_zero hn).elim
    | succ n_2 ih_2 =>
      intro i2_1 M_2 hn_2 hi_2 hS_2
      obtain ⟨g1, g3, g4, cc, m1, m3, m4, hn, hm, hx⟩ := hS_2.1.pl8 hY0
      refine ml_blk 2 (S' := (4, [(0, .ref p), (1, .int i2_1)], [.ref p, .int i2_1], M_2)) rfl ?_
      refine tg_ref (S' := (7, [(0, .ref p), (1, .int i2_1)], [.ref t, .int i2_1], M_2)) rfl hS_2.1 hY0 (by decide) rfl rfl ?_
      refine tl_row (k := 31) (ty := .int) (S' := (8, [(0, .ref p), (1, .int i2_1)], [.int (nI np), .int i2_1], M_2)) rfl hS_2.1 hyt rfl rfl ?_
      refine ml_if2 (S1 := (56, [(0, .ref p), (1, .int i2_1)], [], M_2)) (S2 := (11, [(0, .ref p), (1, .int i2_1)], [], M_2)) rfl rfl rfl (fun c_8 => ?_) (fun c_8 => ?_)
      · have c_8 : (nI np) ≤ i2_1 := of_decide_eq_true c_8
        exact ml_ret rfl (rfl) (⟨rfl, hS_2⟩)
      · have c_8 : ¬ ((nI np) ≤ i2_1) := of_decide_eq_false c_8
        refine ml_st (S' := (12, [(0, .ref p), (1, .int i2_1)], [.ref p], M_2)) rfl rfl rfl ?_
        refine tg_ref (S' := (15, [(0, .ref p), (1, .int i2_1)], [.ref t], M_2)) rfl hS_2.1 hY0 (by decide) rfl rfl ?_
        refine ml_st (S' := (16, [(0, .ref p), (1, .int i2_1)], [.int i2_1, .ref t], M_2)) rfl rfl rfl ?_
        refine mo_ald (S' := (17, [(0, .ref p), (1, .int i2_1)], [.int (g1 (Int32.toNatClampNeg i2_1))], M_2)) rfl m1 (vin_nI hi_2 c_8) rfl ?_
        refine ml_st (S' := (18, [(0, .ref p), (1, .int i2_1)], [.int 1, .int (g1 (Int32.toNatClampNeg i2_1))], M_2)) rfl rfl rfl ?_
        refine ml_if2 (S1 := (50, [(0, .ref p), (1, .int i2_1)], [], M_2)) (S2 := (21, [(0, .ref p), (1, .int i2_1)], [], M_2)) rfl rfl rfl (fun c_18 => ?_) (fun c_18 => ?_)
        · have c_18 : ¬ (g1 (Int32.toNatClampNeg i2_1)) = 1 := of_decide_eq_true c_18
          refine ml_st (S' := (53, [(1, .int (i2_1 + 1)), (0, .ref p)], [], M_2)) rfl rfl rfl ?_
          refine ml_st (S' := (2, [(0, .ref p), (1, .int (i2_1 + 1))], [], M_2)) rfl rfl rfl ?_
          exact ih_2 (i2_1 + 1) _ (loop_inc (Int32.not_le.mp c_8) hn_2) (by rw [inc_lt (Int32.not_le.mp c_8)]; omega) hS_2
        · have c_18 : ¬ (¬ (g1 (Int32.toNatClampNeg i2_1)) = 1) := of_decide_eq_false c_18
          refine ml_st (S' := (22, [(0, .ref p), (1, .int i2_1)], [.ref p], M_2)) rfl rfl rfl ?_
          refine tg_ref (S' := (25, [(0, .ref p), (1, .int i2_1)], [.ref sh], M_2)) rfl hS_2.1 hY0 (by decide) rfl rfl ?_
          refine ml_blk 3 (S' := (28, [(0, .ref p), (1, .int i2_1)], [.ref p, .ref p, .int i2_1, .ref sh], M_2)) rfl ?_
          refine tg_ref (S' := (31, [(0, .ref p), (1, .int i2_1)], [.ref f, .ref p, .int i2_1, .ref sh], M_2)) rfl hS_2.1 hY0 (by decide) rfl rfl ?_
          refine ml_st (S' := (32, [(0, .ref p), (1, .int i2_1)], [.int i2_1, .ref f, .ref p, .int i2_1, .ref sh], M_2)) rfl rfl rfl ?_
          refine mo_ald (S' := (33, [(0, .ref p), (1, .int i2_1)], [.int (g3 (Int32.toNatClampNeg i2_1)), .ref p, .int i2_1, .ref sh], M_2)) rfl m3 (vin_nI hi_2 c_8) rfl ?_
          refine ml_st (S' := (34, [(0, .ref p), (1, .int i2_1)], [.ref p, .int (g3 (Int32.toNatClampNeg i2_1)), .ref p, .int i2_1, .ref sh], M_2)) rfl rfl rfl ?_
          refine tg_ref (S' := (37, [(0, .ref p), (1, .int i2_1)], [.ref f, .int (g3 (Int32.toNatClampNeg i2_1)), .ref p, .int i2_1, .ref sh], M_2)) rfl hS_2.1 hY0 (by decide) rfl rfl ?_
          refine ml_st (S' := (38, [(0, .ref p), (1, .int i2_1)], [.int i2_1, .ref f, .int (g3 (Int32.toNatClampNeg i2_1)), .ref p, .int i2_1, .ref sh], M_2)) rfl rfl rfl ?_
          refine mo_ald (S' := (39, [(0, .ref p), (1, .int i2_1)], [.int (g3 (Int32.toNatClampNeg i2_1)), .int (g3 (Int32.toNatClampNeg i2_1)), .ref p, .int i2_1, .ref sh], M_2)) rfl m3 (vin_nI hi_2 c_8) rfl ?_
          refine ml_st (S' := (40, [(0, .ref p), (1, .int i2_1)], [.ref p, .int (g3 (Int32.toNatClampNeg i2_1)), .int (g3 (Int32.toNatClampNeg i2_1)), .ref p, .int i2_1, .ref sh], M_2)) rfl rfl rfl ?_
          refine tg_ref (S' := (43, [(0, .ref p), (1, .int i2_1)], [.ref s, .int (g3 (Int32.toNatClampNeg i2_1)), .int (g3 (Int32.toNatClampNeg i2_1)), .ref p, .int i2_1, .ref sh], M_2)) rfl hS_2.1 hY0 (by decide) rfl rfl ?_
          refine ml_st (S' := (44, [(0, .ref p), (1, .int i2_1)], [.int i2_1, .ref s, .int (g3 (Int32.toNatClampNeg i2_1)), .int (g3 (Int32.toNatClampNeg i2_1)), .ref p, .int i2_1, .ref sh], M_2)) rfl rfl rfl ?_
          refine mo_ald (S' := (45, [(0, .ref p), (1, .int i2_1)], [.int (g4 (Int32.toNatClampNeg i2_1)), .int (g3 (Int32.toNatClampNeg i2_1)), .int (g3 (Int32.toNatClampNeg i2_1)), .ref p, .int i2_1, .ref sh], M_2)) rfl m4 (vin_nI hi_2 c_8) rfl ?_
          refine ml_st (S' := (46, [(0, .ref p), (1, .int i2_1)], [.int ((g3 (Int32.toNatClampNeg i2_1)) + (g4 (Int32.toNatClampNeg i2_1))), .int (g3 (Int32.toNatClampNeg i2_1)), .ref p, .int i2_1, .ref sh], M_2)) rfl rfl rfl ?_
          have hb := hx _ (vin_nat (vin_nI hi_2 c_8)) (Decidable.not_not.mp c_18)
          refine ml_call (a := [.ref p, .int (g3 (Int32.toNatClampNeg i2_1)), .int ((g3 (Int32.toNatClampNeg i2_1)) + (g4 (Int32.toNatClampNeg i2_1)))]) (rest := [.int i2_1, .ref sh]) rfl (okc_t rfl rfl rfl hS_2.1 hY0 (by decide)) rfl rfl (tp_shapeOf hS_2.1 hY0 hb.1 (by rw [i_add (by omega) (by omega)]; exact hb.2.2) (by omega)) (fun v9 M9 h2 => ?_)
          obtain ⟨⟨u1, rfl⟩, h2⟩ := h2
          rw [h2]
          show ml _ _ _ (49, [(0, .ref p), (1, .int i2_1)], [.int u1, .int i2_1, .ref sh], M_2) _
          refine ts_int rfl hS_2 hysh (vin_nI hi_2 c_8) (Or.inr rfl) (fun M3 hS4 f5 => ?_)
          show ml _ _ _ (50, [(0, .ref p), (1, .int i2_1)], [], M3) _
          refine ml_st (S' := (53, [(1, .int (i2_1 + 1)), (0, .ref p)], [], M3)) rfl rfl rfl ?_
          refine ml_st (S' := (2, [(0, .ref p), (1, .int (i2_1 + 1))], [], M3)) rfl rfl rfl ?_
          exact ih_2 (i2_1 + 1) _ (loop_inc (Int32.not_le.mp c_8) hn_2) (by rw [inc_lt (Int32.not_le.mp c_8)]; omega) hS4
  exact L_2 _ 0 _ (Nat.le_refl _) (by decide) hS
set_option maxHeartbeats 2000000 in
theorem tr_roomFor {g : xe_G} {M : mi_H} {Y : yT} {r c b vd n da : Nat} {x1 : Int32} {a0 : Int32} (hW : WF g Y M) (hY0 : Y.1 r = some (9, [c, b, vd, n])) (hY1 : Y.1 c = some (3, [b, da, n])) (hY2 : Y.1 b = some (1, [da, n])) (hY3 : Y.1 vd = some (10, [])) (hr3 : mi_gf M r 9 3 = some (.int a0)) {d : Nat} (hd : 2 ≤ d) : mt (mT g) d 158 [.ref r, .int x1] M (fun v M' => (∃ x : Int32, v = some (.int x) ∧ 0 ≤ x.toInt ∧ 8 * x.toInt ≤ n) ∧ M' = M) := by
  obtain ⟨d, rfl⟩ : ∃ e, d = e + 1 := ⟨d - 1, by omega⟩
  have hS : st g Y M M := st.rf hW
  refine mt_in (b := mb_158 g) rfl rfl ?_
  show ml (mT g) d (mb_158 g).2 (0, [(0, .ref r), (1, .int x1)], [], M) _
  obtain ⟨h0, h1⟩ := hW.rdb hY0 hr3
  have hn := hW.bn hY2
  refine ml_blk 3 (S' := (3, [(0, .ref r), (1, .int x1)], [.ref r, .int x1, .int 0], M)) rfl ?_
  refine tg_ref (S' := (6, [(0, .ref r), (1, .int x1)], [.ref b, .int x1, .int 0], M)) rfl hS.1 hY0 (by decide) rfl rfl ?_
  refine ml_call (a := [.ref b]) (rest := [.int x1, .int 0]) rfl (okc_t rfl rfl rfl hS.1 hY2 (by decide)) rfl rfl (ct_size (hS.1.bytes hY2).1 (by omega)) (fun v1 M2 h3 => ?_)
  obtain ⟨rfl, h3⟩ := h3
  rw [h3]
  show ml _ _ _ (9, [(0, .ref r), (1, .int x1)], [.int (nI n), .int x1, .int 0], M) _
  refine ml_st (S' := (10, [(0, .ref r), (1, .int x1)], [.ref r, .int (nI n), .int x1, .int 0], M)) rfl rfl rfl ?_
  refine ml_get (S' := (13, [(0, .ref r), (1, .int x1)], [.int a0, .int (nI n), .int x1, .int 0], M)) rfl hr3 rfl ?_
  refine ml_blk 2 (S' := (16, [(0, .ref r), (1, .int x1)], [.int 8, .int ((nI n) - a0), .int x1, .int 0], M)) rfl ?_
  refine ml_blk 3 (S' := (23, [(0, .ref r), (1, .int x1)], [.int (if 0 < (if (((nI n) - a0) / 8) < x1 then (((nI n) - a0) / 8) else x1) then (if (((nI n) - a0) / 8) < x1 then (((nI n) - a0) / 8) else x1) else 0)], M)) rfl ?_
  exact ml_ret rfl (rfl) (⟨⟨_, rfl, room_ok hn h0 h1⟩, rfl⟩)
theorem mem_aw {f f' : Nat → Int32} {n : Nat} {a : Int32} (e : f' = f) (h : AW f n (sp_u2 n f (a + 2 + 2 + 2)).toInt.toNat (a + 2 + 2 + 2 + 2)) : AW f' n (sp_u2 n f (a + 6)).toInt.toNat (a + 8) := by
  subst e
  have e6 : a + 2 + 2 + 2 = a + 6 := by rw [Int32.add_assoc, Int32.add_assoc]; rfl
  have e8 : a + 6 + 2 = a + 8 := by rw [Int32.add_assoc]; rfl
  rw [e6, e8] at h
  exact h

set_option maxHeartbeats 2000000 in
theorem tr_takesMembers {g : xe_G} {M : mi_H} {Y : yT} {r c b vd n da mm km : Nat} {x2 : Int32}  (hW : WF g Y M) (hY0 : Y.1 r = some (9, [c, b, vd, n])) (hY1 : Y.1 c = some (3, [b, da, n])) (hY2 : Y.1 b = some (1, [da, n])) (hY3 : Y.1 vd = some (10, [])) (hY4 : Y.1 mm = some (23, [km, da, n])) {d : Nat} (hd : 4 ≤ d) : mt (mT g) d 167 [.ref r, .ref mm, .int x2] M (fun v M' => ∃ Y', (∃ x : Int32, v = some (.int x) ∧ (x = 0 ∨ x = 1)) ∧ sa g Y M Y' M' km (11 * km)) := by
  obtain ⟨d, rfl⟩ : ∃ e, d = e + 1 := ⟨d - 1, by omega⟩
  have hS : st g Y M M := st.rf hW
  refine mt_in (b := mb_167 g) rfl rfl ?_
  show ml (mT g) d (mb_167 g).2 (0, [(0, .ref r), (1, .ref mm), (2, .int x2)], [], M) _
  have hA := sa.rf hW
  have hml := hW.mlen hY4
  refine ml_st (S' := (1, [(0, .ref r), (1, .ref mm), (2, .int x2)], [.int 0], M)) rfl rfl rfl ?_
  refine ml_st (S' := (2, [(0, .ref r), (1, .ref mm), (2, .int x2), (3, .int 0)], [], M)) rfl rfl rfl ?_
  have L_2 : ∀ (n_2 : Nat) (i2_3 : Int32) (Y_2 : yT) (M_2 : mi_H) (nc_2 ns_2 : Nat), (2147483648 - i2_3.toInt).toNat ≤ n_2 → sa g Y M Y_2 M_2 nc_2 ns_2 → (0 ≤ i2_3.toInt ∧ (nc_2 : Int) ≤ i2_3.toInt ∧ (nc_2 ≤ km ∧ ns_2 ≤ 11 * nc_2)) → ml (mT g) d (mb_167 g).2 (2, [(0, .ref r), (1, .ref mm), (2, .int x2), (3, .int i2_3)], [], M_2) (fun v M' => ∃ Y', (∃ x : Int32, v = some (.int x) ∧ (x = 0 ∨ x = 1)) ∧ sa g Y M Y' M' km (11 * km)) := by
    intro n_2
    induction n_2 with
    | zero => intro i2_3 Y_2 M_2 nc_2 ns_2 hn; exact (loop_zero hn).elim
    | succ n_2 ih_2 =>
      intro i2_3 Y_2 M_2 nc_2 ns_2 hn_2 hL_2 hi_2
      have hT0_2 := (hA.st hS).tr hL_2
      have hS1 := st.rf hT0_2.1
      have h2 := (hL_2.2.1 _ _ hY0).1
      have h3 := (hL_2.2.1 _ _ hY1).1
      have h4 := (hL_2.2.1 _ _ hY2).1
      have h5 := (hL_2.2.1 _ _ hY3).1
      have h6 := (hL_2.2.1 _ _ hY4).1
      obtain ⟨ra, hra, hr0, hr1⟩ := hS1.1.rd h2
      refine ml_blk 2 (S' := (4, [(0, .ref r), (1, .ref mm), (2, .int x2), (3, .int i2_3)], [.int x2, .int i2_3], M_2)) rfl ?_
      refine ml_if2 (S1 := (74, [(0, .ref r), (1, .ref mm), (2, .int x2), (3, .int i2_3)], [], M_2)) (S2 := (7, [(0, .ref r), (1, .ref mm), (2, .int x2), (3, .int i2_3)], [], M_2)) rfl rfl rfl (fun c_4 => ?_) (fun c_4 => ?_)
      · have c_4 : x2 ≤ i2_3 := of_decide_eq_true c_4
        refine ml_st (S' := (75, [(0, .ref r), (1, .ref mm), (2, .int x2), (3, .int i2_3)], [.int 1], M_2)) rfl rfl rfl ?_
        exact ml_ret rfl (r_z (Or.inr rfl)) (⟨Y_2, ⟨_, rfl, Or.inr rfl⟩, (hT0_2.st hS1).le (by have := hi_2.2.2.1; omega) (by have := hi_2.2.2; omega)⟩)
      · have c_4 : ¬ (x2 ≤ i2_3) := of_decide_eq_false c_4
        refine ml_st (S' := (8, [(0, .ref r), (1, .ref mm), (2, .int x2), (3, .int i2_3)], [.ref r], M_2)) rfl rfl rfl ?_
        refine ml_get (S' := (11, [(0, .ref r), (1, .ref mm), (2, .int x2), (3, .int i2_3)], [.int ra], M_2)) rfl hra rfl ?_
        refine ml_st (S' := (13, [(4, .int ra), (0, .ref r), (1, .ref mm), (2, .int x2), (3, .int i2_3)], [], M_2)) rfl rfl rfl ?_
        refine ml_blk 2 (S' := (15, [(4, .int ra), (0, .ref r), (1, .ref mm), (2, .int x2), (3, .int i2_3)], [.int 2, .ref r], M_2)) rfl ?_
        refine ml_call (a := [.ref r, .int 2]) (rest := []) rfl (okc_t rfl rfl rfl hS1.1 h2 (by decide)) rfl rfl (tr_takes hS1.1 h2 h3 h4 h5 hra (by decide) (by omega)) (fun v7 M8 h9 => ?_)
        obtain ⟨⟨u10, rfl, z11⟩, h9⟩ := h9
        have hS12 := hS1.tr h9.1
        show ml _ _ _ (18, [(4, .int ra), (0, .ref r), (1, .ref mm), (2, .int x2), (3, .int i2_3)], [.int u10], M8) _
        refine ml_if (S1 := (44, [], [], M8)) (S2 := (21, [(4, .int ra), (0, .ref r), (1, .ref mm), (2, .int x2), (3, .int i2_3)], [], M8)) rfl rfl rfl (fun c_18 => ?_) (fun c_18 => ?_)
        · have c_18 : u10 = 0 := of_decide_eq_true c_18
          refine ml_st (S' := (45, [], [.int 0], M8)) rfl rfl rfl ?_
          exact ml_ret rfl (r_z (Or.inl rfl)) (⟨Y_2, ⟨_, rfl, Or.inl rfl⟩, (hT0_2.st hS12).le (by have := hi_2.2.2.1; omega) (by have := hi_2.2.2; omega)⟩)
        · have c_18 : ¬ (u10 = 0) := of_decide_eq_false c_18
          have t13 := z11.resolve_left c_18
          have ha1 := t13.2.1
          refine ml_blk 2 (S' := (23, [(4, .int ra), (0, .ref r), (1, .ref mm), (2, .int x2), (3, .int i2_3)], [.int 2, .ref r], M8)) rfl ?_
          refine ml_call (a := [.ref r, .int 2]) (rest := []) rfl (okc_t rfl rfl rfl hS12.1 h2 (by decide)) rfl rfl (tr_takes hS12.1 h2 h3 h4 h5 t13.2.2.1 (by decide) (by omega)) (fun v14 M15 h16 => ?_)
          obtain ⟨⟨u17, rfl, z18⟩, h16⟩ := h16
          have hS19 := hS12.tr h16.1
          show ml _ _ _ (26, [(4, .int ra), (0, .ref r), (1, .ref mm), (2, .int x2), (3, .int i2_3)], [.int u17], M15) _
          refine ml_if (S1 := (44, [], [], M15)) (S2 := (29, [(4, .int ra), (0, .ref r), (1, .ref mm), (2, .int x2), (3, .int i2_3)], [], M15)) rfl rfl rfl (fun c_26 => ?_) (fun c_26 => ?_)
          · have c_26 : u17 = 0 := of_decide_eq_true c_26
            refine ml_st (S' := (45, [], [.int 0], M15)) rfl rfl rfl ?_
            exact ml_ret rfl (r_z (Or.inl rfl)) (⟨Y_2, ⟨_, rfl, Or.inl rfl⟩, (hT0_2.st hS19).le (by have := hi_2.2.2.1; omega) (by have := hi_2.2.2; omega)⟩)
          · have c_26 : ¬ (u17 = 0) := of_decide_eq_false c_26
            have t20 := z18.resolve_left c_26
            have ha2 := t20.2.1
            refine ml_blk 2 (S' := (31, [(4, .int ra), (0, .ref r), (1, .ref mm), (2, .int x2), (3, .int i2_3)], [.int 2, .ref r], M15)) rfl ?_
            refine ml_call (a := [.ref r, .int 2]) (rest := []) rfl (okc_t rfl rfl rfl hS19.1 h2 (by decide)) rfl rfl (tr_takes hS19.1 h2 h3 h4 h5 t20.2.2.1 (by decide) (by omega)) (fun v21 M22 h23 => ?_)
            obtain ⟨⟨u24, rfl, z25⟩, h23⟩ := h23
            have hS26 := hS19.tr h23.1
            show ml _ _ _ (34, [(4, .int ra), (0, .ref r), (1, .ref mm), (2, .int x2), (3, .int i2_3)], [.int u24], M22) _
            refine ml_if (S1 := (44, [], [], M22)) (S2 := (37, [(4, .int ra), (0, .ref r), (1, .ref mm), (2, .int x2), (3, .int i2_3)], [], M22)) rfl rfl rfl (fun c_34 => ?_) (fun c_34 => ?_)
            · have c_34 : u24 = 0 := of_decide_eq_true c_34
              refine ml_st (S' := (45, [], [.int 0], M22)) rfl rfl rfl ?_
              exact ml_ret rfl (r_z (Or.inl rfl)) (⟨Y_2, ⟨_, rfl, Or.inl rfl⟩, (hT0_2.st hS26).le (by have := hi_2.2.2.1; omega) (by have := hi_2.2.2; omega)⟩)
            · have c_34 : ¬ (u24 = 0) := of_decide_eq_false c_34
              have t27 := z25.resolve_left c_34
              have ha3 := t27.2.1
              refine ml_st (S' := (38, [(4, .int ra), (0, .ref r), (1, .ref mm), (2, .int x2), (3, .int i2_3)], [.ref r], M22)) rfl rfl rfl ?_
              refine ml_call (a := [.ref r]) (rest := []) rfl (okc_t rfl rfl rfl hS26.1 h2 (by decide)) rfl rfl (tr_takesAttributes hS26.1 h2 h3 h4 h5 t27.2.2.1 (by omega)) (fun v28 M29 h30 => ?_)
              obtain ⟨⟨u31, rfl, z32⟩, h30⟩ := h30
              have hS33 := hS26.tr h30.1
              show ml _ _ _ (41, [(4, .int ra), (0, .ref r), (1, .ref mm), (2, .int x2), (3, .int i2_3)], [.int u31], M29) _
              refine ml_if (S1 := (46, [(4, .int ra), (0, .ref r), (1, .ref mm), (2, .int x2), (3, .int i2_3)], [], M29)) (S2 := (44, [], [], M29)) rfl rfl rfl (fun c_41 => ?_) (fun c_41 => ?_)
              · have c_41 : ¬ u31 = 0 := of_decide_eq_true c_41
                obtain ⟨-, hq2, haw⟩ := z32.resolve_left c_41
                refine ml_blk 2 (S' := (48, [(4, .int ra), (0, .ref r), (1, .ref mm), (2, .int x2), (3, .int i2_3)], [.ref mm, .int i2_3], M29)) rfl ?_
                refine tl_mem (S' := (49, [(4, .int ra), (0, .ref r), (1, .ref mm), (2, .int x2), (3, .int i2_3)], [.int (nI km), .int i2_3], M29)) rfl hS33.1 h6 rfl ?_
                refine ml_if2 (S1 := (68, [(0, .ref r), (1, .ref mm), (2, .int x2), (3, .int i2_3)], [], M29)) (S2 := (52, [(4, .int ra), (0, .ref r), (1, .ref mm), (2, .int x2), (3, .int i2_3)], [], M29)) rfl rfl rfl (fun c_49 => ?_) (fun c_49 => ?_)
                · have c_49 : (nI km) ≤ i2_3 := of_decide_eq_true c_49
                  refine ml_st (S' := (71, [(3, .int (i2_3 + 1)), (0, .ref r), (1, .ref mm), (2, .int x2)], [], M29)) rfl rfl rfl ?_
                  refine ml_st (S' := (2, [(0, .ref r), (1, .ref mm), (2, .int x2), (3, .int (i2_3 + 1))], [], M29)) rfl rfl rfl ?_
                  exact ih_2 (i2_3 + 1) _ _ _ _ (loop_inc (Int32.not_le.mp c_4) hn_2) (hL_2.st hS33) (⟨by rw [inc_lt (Int32.not_le.mp c_4)]; have := hi_2.1; omega, by rw [inc_lt (Int32.not_le.mp c_4)]; have := hi_2.2.1; omega, hi_2.2.2⟩)
                · have c_49 : ¬ ((nI km) ≤ i2_3) := of_decide_eq_false c_49
                  refine ml_blk 2 (S' := (54, [(4, .int ra), (0, .ref r), (1, .ref mm), (2, .int x2), (3, .int i2_3)], [.int i2_3, .ref mm], M29)) rfl ?_
                  have hW_hM35 := hS33.1
                  refine mm_newf (c := 0) (k := 6) (N := 11) (ds := [.int 0, .int 0, .int 0, .int 0, .int 0, .int 0, .int 0, .int 0, .int 0, .int 0, .null]) rfl hW_hM35 (fun M34 hM35 f36 => ?_)
                  show ml _ _ _ (57, [(4, .int ra), (0, .ref r), (1, .ref mm), (2, .int x2), (3, .int i2_3)], [.ref M29.2.1, .int i2_3, .ref mm], M34) _
                  refine ml_blk 2 (S' := (59, [(4, .int ra), (0, .ref r), (1, .ref mm), (2, .int x2), (3, .int i2_3)], [.ref r, .ref M29.2.1, .ref M29.2.1, .int i2_3, .ref mm], M34)) rfl ?_
                  refine tg_ref (S' := (62, [(4, .int ra), (0, .ref r), (1, .ref mm), (2, .int x2), (3, .int i2_3)], [.ref b, .ref M29.2.1, .ref M29.2.1, .int i2_3, .ref mm], M34)) rfl hM35.1.1 h2 (by decide) rfl rfl ?_
                  refine ml_st (S' := (64, [(4, .int ra), (0, .ref r), (1, .ref mm), (2, .int x2), (3, .int i2_3)], [.int ra, .ref b, .ref M29.2.1, .ref M29.2.1, .int i2_3, .ref mm], M34)) rfl rfl rfl ?_
                  have hda0 := hW_hM35.lnk h4 (by decide)
                  refine ml_call (a := [.ref M29.2.1, .ref b, .int ra]) (rest := [.ref M29.2.1, .int i2_3, .ref mm]) rfl (okc_v rfl rfl rfl hM35.2.1) rfl rfl (tk_Member hW_hM35 hM35 h4 (by omega)) (fun v37 M38 h39 => ?_)
                  obtain ⟨rfl, Y40, hM41, h42⟩ := h39
                  have h43 := (h42 _ _ h2).1
                  have h44 := (h42 _ _ h3).1
                  have h45 := (h42 _ _ h4).1
                  have h46 := (h42 _ _ h5).1
                  have h47 := (h42 _ _ h6).1
                  have hda := hM41.1.1.lnk h45 (by decide)
                  have hye : Y40.2 da = Y_2.2 da := (h42 _ _ hda0).2
                  refine mm_done (k := 6) (ps := [da, n]) hM41 (okY_new (by decide) hM41.2.1 (by simp [sch]) ⟨⟨_, rfl⟩, ⟨_, rfl⟩, ⟨_, rfl⟩, ⟨_, rfl⟩, ⟨_, rfl⟩, ⟨_, rfl⟩, ⟨_, rfl⟩, ⟨_, rfl⟩, ⟨_, rfl⟩, ⟨_, rfl⟩, Or.inl rfl, trivial⟩ ((yadd_le hM41.2.2.1 _ _ hda).1) ⟨_, _, rfl, rfl, u2_pos, mem_aw (show (yadd Y40 _ 6 [da, n]).2 da = Y_2.2 da from hye) haw⟩) (fun Y48 h49 h50 h51 => ?_)
                  have h52 := (h50 _ _ h43).1
                  have h53 := (h50 _ _ h44).1
                  have h54 := (h50 _ _ h45).1
                  have h55 := (h50 _ _ h46).1
                  have h56 := (h50 _ _ h47).1
                  have hA57 := (hT0_2.st hS33).tr h49.sa
                  have hA58 := (hL_2.st hS33).tr h49.sa
                  have hS59 := st.rf hA57.1
                  show ml _ _ _ (67, [(4, .int ra), (0, .ref r), (1, .ref mm), (2, .int x2), (3, .int i2_3)], [.ref M29.2.1, .int i2_3, .ref mm], M38) _
                  refine ts_mem rfl hS59 h56 h51 (vin_nI hi_2.1 c_49) (fun M60 hS61 f62 => ?_)
                  show ml _ _ _ (68, [(0, .ref r), (1, .ref mm), (2, .int x2), (3, .int i2_3)], [], M60) _
                  refine ml_st (S' := (71, [(3, .int (i2_3 + 1)), (0, .ref r), (1, .ref mm), (2, .int x2)], [], M60)) rfl rfl rfl ?_
                  refine ml_st (S' := (2, [(0, .ref r), (1, .ref mm), (2, .int x2), (3, .int (i2_3 + 1))], [], M60)) rfl rfl rfl ?_
                  exact ih_2 (i2_3 + 1) _ _ _ _ (loop_inc (Int32.not_le.mp c_4) hn_2) (hA58.st hS61) (⟨by rw [inc_lt (Int32.not_le.mp c_4)]; have := hi_2.1; omega, by rw [inc_lt (Int32.not_le.mp c_4)]; have := hi_2.2.1; omega, by have := i_nle c_49; rw [nI_val hml.1] at this; have := hi_2.2.1; omega, by have := hi_2.2.2.2; omega⟩)
              · have c_41 : ¬ (¬ u31 = 0) := of_decide_eq_false c_41
                refine ml_st (S' := (45, [], [.int 0], M29)) rfl rfl rfl ?_
                exact ml_ret rfl (r_z (Or.inl rfl)) (⟨Y_2, ⟨_, rfl, Or.inl rfl⟩, (hT0_2.st hS33).le (by have := hi_2.2.2.1; omega) (by have := hi_2.2.2; omega)⟩)
  exact L_2 _ 0 _ _ 0 0 (Nat.le_refl _) (sa.rf hS.1) (⟨by decide, by decide, Nat.zero_le _, Nat.le_refl _⟩)
set_option maxHeartbeats 2000000 in
theorem tr_takesFields {g : xe_G} {M : mi_H} {Y : yT} {r c b vd n da : Nat} {a0 : Int32} (hW : WF g Y M) (hY0 : Y.1 r = some (9, [c, b, vd, n])) (hY1 : Y.1 c = some (3, [b, da, n])) (hY2 : Y.1 b = some (1, [da, n])) (hY3 : Y.1 vd = some (10, [])) (hr3 : mi_gf M r 9 3 = some (.int a0)) {d : Nat} (hd : 5 ≤ d) : mt (mT g) d 164 [.ref r] M (fun v M' => ∃ Y', (∃ x : Int32, v = some (.int x) ∧ (x = 0 ∨ x = 1)) ∧ sa g Y M Y' M' (n + 1) (2 * n)) := by
  obtain ⟨d, rfl⟩ : ∃ e, d = e + 1 := ⟨d - 1, by omega⟩
  have hS : st g Y M M := st.rf hW
  refine mt_in (b := mb_164 g) rfl rfl ?_
  show ml (mT g) d (mb_164 g).2 (0, [(0, .ref r)], [], M) _
  have hA := sa.rf hW
  obtain ⟨h0, h1⟩ := hW.rdb hY0 hr3
  have hn := hW.bn hY2
  refine ml_blk 2 (S' := (2, [(0, .ref r)], [.int 2, .ref r], M)) rfl ?_
  refine ml_call (a := [.ref r, .int 2]) (rest := []) rfl (okc_t rfl rfl rfl hS.1 hY0 (by decide)) rfl rfl (tr_takes hS.1 hY0 hY1 hY2 hY3 hr3 (by decide) (by omega)) (fun v1 M2 h3 => ?_)
  obtain ⟨⟨u4, rfl, z5⟩, h3⟩ := h3
  have hS6 := hS.tr h3.1
  show ml _ _ _ (5, [(0, .ref r)], [.int u4], M2) _
  refine ml_if (S1 := (10, [(0, .ref r)], [], M2)) (S2 := (8, [(0, .ref r)], [], M2)) rfl rfl rfl (fun c_5 => ?_) (fun c_5 => ?_)
  · have c_5 : ¬ u4 = 0 := of_decide_eq_true c_5
    have t7 := z5.resolve_left c_5
    refine ml_st (S' := (11, [(0, .ref r)], [.ref r], M2)) rfl rfl rfl ?_
    refine tg_ref (S' := (14, [(0, .ref r)], [.ref c], M2)) rfl hS6.1 hY0 (by decide) rfl rfl ?_
    refine ml_blk 2 (S' := (16, [(0, .ref r)], [.ref r, .ref r, .ref c], M2)) rfl ?_
    refine ml_get (S' := (19, [(0, .ref r)], [.int (ix n (Y.2 da) 2 a0), .ref r, .ref c], M2)) rfl t7.2.2.2 rfl ?_
    refine ml_call (a := [.ref r, .int (ix n (Y.2 da) 2 a0)]) (rest := [.ref c]) rfl (okc_t rfl rfl rfl hS6.1 hY0 (by decide)) rfl rfl (tr_roomFor hS6.1 hY0 hY1 hY2 hY3 t7.2.2.1 (by omega)) (fun v8 M9 h10 => ?_)
    obtain ⟨⟨u11, rfl, z12⟩, h10⟩ := h10
    rw [h10]
    show ml _ _ _ (22, [(0, .ref r)], [.int u11, .ref c], M2) _
    refine ml_anew (S' := (25, [(0, .ref r)], [.ref M2.2.1, .ref c], (mk1 M2 (.inl (.object "ClassGate$Member", (Int32.toNatClampNeg u11), fun _ => some .null)) (Int32.toNatClampNeg u11)))) rfl (z12.1) (by have := z12; omega) rfl ?_
    refine mm_row (kr := 23) (pr := [(Int32.toNatClampNeg u11), da, n]) hS6.1 (okY_mem (⟨by show (Int32.toInt u11).toNat < _; have := z12; omega, by show 8 * (Int32.toInt u11).toNat ≤ _; have := z12; omega⟩)) (fun Y13 M14 b15 _ h16 h17 h18 f19 => ?_)
    have g20 := gf_fr (f19 r (hS6.1.2.1 _ _ hY0)) t7.2.2.1
    have g21 := gf_fr (f19 r (hS6.1.2.1 _ _ hY0)) t7.2.2.2
    have hA22 := (hA.st hS6).tr h16.sa
    have hS23 := st.rf hA22.1
    have h24 := (h16.2.1 _ _ hY0).1
    have h25 := (h16.2.1 _ _ hY1).1
    have h26 := (h16.2.1 _ _ hY2).1
    have h27 := (h16.2.1 _ _ hY3).1
    show ml _ _ _ (25, [(0, .ref r)], [.ref b15, .ref c], M14) _
    refine tp_put rfl hS23 h25 (by decide) rfl (⟨_, rfl, _, h17⟩) rfl rfl (fun M28 hS29 f30 => ?_)
    have g31 := gf_fr (f30.1 r (ykne h24 h25 (by decide))) g20
    have g32 := gf_fr (f30.1 r (ykne h24 h25 (by decide))) g21
    show ml _ _ _ (28, [(0, .ref r)], [], M28) _
    refine ml_blk 2 (S' := (30, [(0, .ref r)], [.ref r, .ref r], M28)) rfl ?_
    refine tg_ref (S' := (33, [(0, .ref r)], [.ref c, .ref r], M28)) rfl hS29.1 h24 (by decide) rfl rfl ?_
    refine ml_get (S' := (36, [(0, .ref r)], [.ref b15, .ref r], M28)) rfl f30.2.2.1 rfl ?_
    refine ml_st (S' := (37, [(0, .ref r)], [.ref r, .ref b15, .ref r], M28)) rfl rfl rfl ?_
    refine ml_get (S' := (40, [(0, .ref r)], [.int (ix n (Y.2 da) 2 a0), .ref b15, .ref r], M28)) rfl g32 rfl ?_
    refine ml_call (a := [.ref r, .ref b15, .int (ix n (Y.2 da) 2 a0)]) (rest := []) rfl (okc_t rfl rfl rfl hS29.1 h24 (by decide)) rfl rfl (tr_takesMembers hS29.1 h24 h25 h26 h27 h17 (by omega)) (fun v33 M34 h35 => ?_)
    obtain ⟨Y37, ⟨u36, rfl, z39⟩, hv38⟩ := h35
    have hA40 := (hA22.st hS29).tr hv38
    have hS41 := st.rf hA40.1
    have h42 := (hv38.2.1 _ _ h24).1
    have h43 := (hv38.2.1 _ _ h25).1
    have h44 := (hv38.2.1 _ _ h26).1
    have h45 := (hv38.2.1 _ _ h27).1
    have h46 := (hv38.2.1 _ _ h17).1
    show ml _ _ _ (43, [(0, .ref r)], [.int u36], M34) _
    exact ml_ret rfl (r_z (z39)) (⟨Y37, ⟨_, rfl, z39⟩, (hA40.st hS41).le (by have hq : 8 * (Int32.toNatClampNeg u11) ≤ n := (by show 8 * (Int32.toInt u11).toNat ≤ _; have := z12; omega); omega) (by have hq : 8 * (Int32.toNatClampNeg u11) ≤ n := (by show 8 * (Int32.toInt u11).toNat ≤ _; have := z12; omega); omega)⟩)
  · have c_5 : ¬ (¬ u4 = 0) := of_decide_eq_false c_5
    refine ml_st (S' := (9, [(0, .ref r)], [.int 0], M2)) rfl rfl rfl ?_
    exact ml_ret rfl (r_z (Or.inl rfl)) (⟨Y, ⟨_, rfl, Or.inl rfl⟩, (hA.st hS6).le (by omega) (by omega)⟩)
set_option maxHeartbeats 2000000 in
theorem tr_takesMethods {g : xe_G} {M : mi_H} {Y : yT} {r c b vd n da : Nat} {a0 : Int32} (hW : WF g Y M) (hY0 : Y.1 r = some (9, [c, b, vd, n])) (hY1 : Y.1 c = some (3, [b, da, n])) (hY2 : Y.1 b = some (1, [da, n])) (hY3 : Y.1 vd = some (10, [])) (hr3 : mi_gf M r 9 3 = some (.int a0)) {d : Nat} (hd : 5 ≤ d) : mt (mT g) d 168 [.ref r] M (fun v M' => ∃ Y', (∃ x : Int32, v = some (.int x) ∧ (x = 0 ∨ x = 1)) ∧ sa g Y M Y' M' (n + 1) (2 * n)) := by
  obtain ⟨d, rfl⟩ : ∃ e, d = e + 1 := ⟨d - 1, by omega⟩
  have hS : st g Y M M := st.rf hW
  refine mt_in (b := mb_168 g) rfl rfl ?_
  show ml (mT g) d (mb_168 g).2 (0, [(0, .ref r)], [], M) _
  have hA := sa.rf hW
  obtain ⟨h0, h1⟩ := hW.rdb hY0 hr3
  have hn := hW.bn hY2
  refine ml_blk 2 (S' := (2, [(0, .ref r)], [.int 2, .ref r], M)) rfl ?_
  refine ml_call (a := [.ref r, .int 2]) (rest := []) rfl (okc_t rfl rfl rfl hS.1 hY0 (by decide)) rfl rfl (tr_takes hS.1 hY0 hY1 hY2 hY3 hr3 (by decide) (by omega)) (fun v1 M2 h3 => ?_)
  obtain ⟨⟨u4, rfl, z5⟩, h3⟩ := h3
  have hS6 := hS.tr h3.1
  show ml _ _ _ (5, [(0, .ref r)], [.int u4], M2) _
  refine ml_if (S1 := (10, [(0, .ref r)], [], M2)) (S2 := (8, [(0, .ref r)], [], M2)) rfl rfl rfl (fun c_5 => ?_) (fun c_5 => ?_)
  · have c_5 : ¬ u4 = 0 := of_decide_eq_true c_5
    have t7 := z5.resolve_left c_5
    refine ml_st (S' := (11, [(0, .ref r)], [.ref r], M2)) rfl rfl rfl ?_
    refine tg_ref (S' := (14, [(0, .ref r)], [.ref c], M2)) rfl hS6.1 hY0 (by decide) rfl rfl ?_
    refine ml_blk 2 (S' := (16, [(0, .ref r)], [.ref r, .ref r, .ref c], M2)) rfl ?_
    refine ml_get (S' := (19, [(0, .ref r)], [.int (ix n (Y.2 da) 2 a0), .ref r, .ref c], M2)) rfl t7.2.2.2 rfl ?_
    refine ml_call (a := [.ref r, .int (ix n (Y.2 da) 2 a0)]) (rest := [.ref c]) rfl (okc_t rfl rfl rfl hS6.1 hY0 (by decide)) rfl rfl (tr_roomFor hS6.1 hY0 hY1 hY2 hY3 t7.2.2.1 (by omega)) (fun v8 M9 h10 => ?_)
    obtain ⟨⟨u11, rfl, z12⟩, h10⟩ := h10
    rw [h10]
    show ml _ _ _ (22, [(0, .ref r)], [.int u11, .ref c], M2) _
    refine ml_anew (S' := (25, [(0, .ref r)], [.ref M2.2.1, .ref c], (mk1 M2 (.inl (.object "ClassGate$Member", (Int32.toNatClampNeg u11), fun _ => some .null)) (Int32.toNatClampNeg u11)))) rfl (z12.1) (by have := z12; omega) rfl ?_
    refine mm_row (kr := 23) (pr := [(Int32.toNatClampNeg u11), da, n]) hS6.1 (okY_mem (⟨by show (Int32.toInt u11).toNat < _; have := z12; omega, by show 8 * (Int32.toInt u11).toNat ≤ _; have := z12; omega⟩)) (fun Y13 M14 b15 _ h16 h17 h18 f19 => ?_)
    have g20 := gf_fr (f19 r (hS6.1.2.1 _ _ hY0)) t7.2.2.1
    have g21 := gf_fr (f19 r (hS6.1.2.1 _ _ hY0)) t7.2.2.2
    have hA22 := (hA.st hS6).tr h16.sa
    have hS23 := st.rf hA22.1
    have h24 := (h16.2.1 _ _ hY0).1
    have h25 := (h16.2.1 _ _ hY1).1
    have h26 := (h16.2.1 _ _ hY2).1
    have h27 := (h16.2.1 _ _ hY3).1
    show ml _ _ _ (25, [(0, .ref r)], [.ref b15, .ref c], M14) _
    refine tp_put rfl hS23 h25 (by decide) rfl (⟨_, rfl, _, h17⟩) rfl rfl (fun M28 hS29 f30 => ?_)
    have g31 := gf_fr (f30.1 r (ykne h24 h25 (by decide))) g20
    have g32 := gf_fr (f30.1 r (ykne h24 h25 (by decide))) g21
    show ml _ _ _ (28, [(0, .ref r)], [], M28) _
    refine ml_blk 2 (S' := (30, [(0, .ref r)], [.ref r, .ref r], M28)) rfl ?_
    refine tg_ref (S' := (33, [(0, .ref r)], [.ref c, .ref r], M28)) rfl hS29.1 h24 (by decide) rfl rfl ?_
    refine ml_get (S' := (36, [(0, .ref r)], [.ref b15, .ref r], M28)) rfl f30.2.2.1 rfl ?_
    refine ml_st (S' := (37, [(0, .ref r)], [.ref r, .ref b15, .ref r], M28)) rfl rfl rfl ?_
    refine ml_get (S' := (40, [(0, .ref r)], [.int (ix n (Y.2 da) 2 a0), .ref b15, .ref r], M28)) rfl g32 rfl ?_
    refine ml_call (a := [.ref r, .ref b15, .int (ix n (Y.2 da) 2 a0)]) (rest := []) rfl (okc_t rfl rfl rfl hS29.1 h24 (by decide)) rfl rfl (tr_takesMembers hS29.1 h24 h25 h26 h27 h17 (by omega)) (fun v33 M34 h35 => ?_)
    obtain ⟨Y37, ⟨u36, rfl, z39⟩, hv38⟩ := h35
    have hA40 := (hA22.st hS29).tr hv38
    have hS41 := st.rf hA40.1
    have h42 := (hv38.2.1 _ _ h24).1
    have h43 := (hv38.2.1 _ _ h25).1
    have h44 := (hv38.2.1 _ _ h26).1
    have h45 := (hv38.2.1 _ _ h27).1
    have h46 := (hv38.2.1 _ _ h17).1
    show ml _ _ _ (43, [(0, .ref r)], [.int u36], M34) _
    exact ml_ret rfl (r_z (z39)) (⟨Y37, ⟨_, rfl, z39⟩, (hA40.st hS41).le (by have hq : 8 * (Int32.toNatClampNeg u11) ≤ n := (by show 8 * (Int32.toInt u11).toNat ≤ _; have := z12; omega); omega) (by have hq : 8 * (Int32.toNatClampNeg u11) ≤ n := (by show 8 * (Int32.toInt u11).toNat ≤ _; have := z12; omega); omega)⟩)
  · have c_5 : ¬ (¬ u4 = 0) := of_decide_eq_false c_5
    refine ml_st (S' := (9, [(0, .ref r)], [.int 0], M2)) rfl rfl rfl ?_
    exact ml_ret rfl (r_z (Or.inl rfl)) (⟨Y, ⟨_, rfl, Or.inl rfl⟩, (hA.st hS6).le (by omega) (by omega)⟩)
set_option maxHeartbeats 2000000 in
theorem tr_takesPool {g : xe_G} {M : mi_H} {Y : yT} {r c b vd n da : Nat} {a0 : Int32} (hW : WF g Y M) (hY0 : Y.1 r = some (9, [c, b, vd, n])) (hY1 : Y.1 c = some (3, [b, da, n])) (hY2 : Y.1 b = some (1, [da, n])) (hY3 : Y.1 vd = some (10, [])) (hr3 : mi_gf M r 9 3 = some (.int a0)) {d : Nat} (hd : 5 ≤ d) : mt (mT g) d 169 [.ref r] M (fun v M' => ∃ Y', (∃ x : Int32, v = some (.int x) ∧ (x = 0 ∨ x = 1)) ∧ sa g Y M Y' M' 7 (3 * n + 13)) := by
  obtain ⟨d, rfl⟩ : ∃ e, d = e + 1 := ⟨d - 1, by omega⟩
  have hS : st g Y M M := st.rf hW
  refine mt_in (b := mb_169 g) rfl rfl ?_
  show ml (mT g) d (mb_169 g).2 (0, [(0, .ref r)], [], M) _
  have hA := sa.rf hW
  obtain ⟨h0, h1⟩ := hW.rdb hY0 hr3
  have hn := hW.bn hY2
  refine ml_st (S' := (1, [(0, .ref r)], [.ref r], M)) rfl rfl rfl ?_
  refine ml_get (S' := (4, [(0, .ref r)], [.int a0], M)) rfl hr3 rfl ?_
  refine ml_st (S' := (5, [(1, .int a0), (0, .ref r)], [], M)) rfl rfl rfl ?_
  refine ml_blk 2 (S' := (7, [(1, .int a0), (0, .ref r)], [.int 2, .ref r], M)) rfl ?_
  refine ml_call (a := [.ref r, .int 2]) (rest := []) rfl (okc_t rfl rfl rfl hS.1 hY0 (by decide)) rfl rfl (tr_takes hS.1 hY0 hY1 hY2 hY3 hr3 (by decide) (by omega)) (fun v1 M2 h3 => ?_)
  obtain ⟨⟨u4, rfl, z5⟩, h3⟩ := h3
  have hS6 := hS.tr h3.1
  show ml _ _ _ (10, [(1, .int a0), (0, .ref r)], [.int u4], M2) _
  refine ml_if (S1 := (15, [(1, .int a0), (0, .ref r)], [], M2)) (S2 := (13, [(1, .int a0), (0, .ref r)], [], M2)) rfl rfl rfl (fun c_10 => ?_) (fun c_10 => ?_)
  · have c_10 : ¬ u4 = 0 := of_decide_eq_true c_10
    have t7 := z5.resolve_left c_10
    refine ml_st (S' := (16, [(1, .int a0), (0, .ref r)], [.ref r], M2)) rfl rfl rfl ?_
    refine ml_get (S' := (19, [(1, .int a0), (0, .ref r)], [.int (sp_u2 n (Y.2 da) a0)], M2)) rfl t7.2.2.2 rfl ?_
    refine ml_if (S1 := (32, [(1, .int a0), (0, .ref r)], [], M2)) (S2 := (22, [(1, .int a0), (0, .ref r)], [], M2)) rfl rfl rfl (fun c_19 => ?_) (fun c_19 => ?_)
    · have c_19 : ¬ (sp_u2 n (Y.2 da) a0) = 0 := of_decide_eq_true c_19
      have hW_hM9 := hS6.1
      refine mm_newf (c := 0) (k := 7) (N := 8) (ds := [.int 0, .null, .null, .null, .null, .null, .null, .int 0]) rfl hW_hM9 (fun M8 hM9 f10 => ?_)
      have g11 := gf_fr (f10 r (Nat.ne_of_lt (hW_hM9.2.1 _ _ hY0))) t7.2.2.1
      have g12 := gf_fr (f10 r (Nat.ne_of_lt (hW_hM9.2.1 _ _ hY0))) t7.2.2.2
      show ml _ _ _ (35, [(1, .int a0), (0, .ref r)], [.ref M2.2.1], M8) _
      refine ml_blk 2 (S' := (37, [(1, .int a0), (0, .ref r)], [.ref r, .ref M2.2.1, .ref M2.2.1], M8)) rfl ?_
      refine ml_get (S' := (40, [(1, .int a0), (0, .ref r)], [.int (sp_u2 n (Y.2 da) a0), .ref M2.2.1, .ref M2.2.1], M8)) rfl g12 rfl ?_
      refine ml_st (S' := (41, [(1, .int a0), (0, .ref r)], [.ref r, .int (sp_u2 n (Y.2 da) a0), .ref M2.2.1, .ref M2.2.1], M8)) rfl rfl rfl ?_
      refine tg_ref (S' := (44, [(1, .int a0), (0, .ref r)], [.ref b, .int (sp_u2 n (Y.2 da) a0), .ref M2.2.1, .ref M2.2.1], M8)) rfl hM9.1.1 hY0 (by decide) rfl rfl ?_
      refine ml_call (a := [.ref b]) (rest := [.int (sp_u2 n (Y.2 da) a0), .ref M2.2.1, .ref M2.2.1]) rfl (okc_t rfl rfl rfl hM9.1.1 hY2 (by decide)) rfl rfl (ct_size (hM9.1.1.bytes hY2).1 (by omega)) (fun v13 M14 h15 => ?_)
      obtain ⟨rfl, h15⟩ := h15
      rw [h15]
      show ml _ _ _ (47, [(1, .int a0), (0, .ref r)], [.int (nI n), .int (sp_u2 n (Y.2 da) a0), .ref M2.2.1, .ref M2.2.1], M8) _
      refine ml_call (a := [.ref M2.2.1, .int (sp_u2 n (Y.2 da) a0), .int (nI n)]) (rest := [.ref M2.2.1]) rfl (okc_v rfl rfl rfl hM9.2.1) rfl rfl (tk_Pool hW_hM9 hM9 (u2_le) (by rw [nI_val hn]; omega) (by rw [nI_val hn]; have := hW.bm hY2; omega) (by omega)) (fun v16 M17 h18 => ?_)
      obtain ⟨rfl, Y19, nh20, t21, tp22, f23, s24, sh25, ch26, h27, h28, h29, h30, h31⟩ := h18
      have hA32 := (hA.st hS6).tr h27.sa
      have hS33 := st.rf hA32.1
      have g34 := gf_fr (h27.2.2.2.2 r (hW_hM9.2.1 _ _ hY0)) t7.2.2.1
      have g35 := gf_fr (h27.2.2.2.2 r (hW_hM9.2.1 _ _ hY0)) t7.2.2.2
      have h36 := (h28 _ _ hY0).1
      have h37 := (h28 _ _ hY1).1
      have h38 := (h28 _ _ hY2).1
      have h39 := (h28 _ _ hY3).1
      show ml _ _ _ (50, [(1, .int a0), (0, .ref r)], [.ref M2.2.1], M17) _
      obtain ⟨hy40, hy41, hy42, hy43, hy44, hy45⟩ := hS33.1.prows h29
      refine ml_st (S' := (51, [(2, .ref M2.2.1), (1, .int a0), (0, .ref r)], [], M17)) rfl rfl rfl ?_
      refine ml_st (S' := (52, [(2, .ref M2.2.1), (1, .int a0), (0, .ref r)], [.ref r], M17)) rfl rfl rfl ?_
      refine tg_ref (S' := (55, [(2, .ref M2.2.1), (1, .int a0), (0, .ref r)], [.ref c], M17)) rfl hS33.1 h36 (by decide) rfl rfl ?_
      refine ml_st (S' := (56, [(2, .ref M2.2.1), (1, .int a0), (0, .ref r)], [.ref M2.2.1, .ref c], M17)) rfl rfl rfl ?_
      refine tp_put rfl hS33 h37 (by decide) rfl (⟨_, rfl, _, h29⟩) rfl rfl (fun M46 hS47 f48 => ?_)
      have g49 := gf_fr (f48.1 r (ykne h36 h37 (by decide))) g34
      have g50 := gf_fr (f48.1 r (ykne h36 h37 (by decide))) g35
      show ml _ _ _ (59, [(2, .ref M2.2.1), (1, .int a0), (0, .ref r)], [], M46) _
      refine ml_st (S' := (60, [(2, .ref M2.2.1), (1, .int a0), (0, .ref r)], [.int 1], M46)) rfl rfl rfl ?_
      refine ml_st (S' := (61, [(0, .ref r), (2, .ref M2.2.1), (3, .int 1)], [], M46)) rfl rfl rfl ?_
      have L_61 : ∀ (n_61 : Nat) (i61_3 : Int32) (M_61 : mi_H), (2147483648 - i61_3.toInt).toNat ≤ n_61 → (1 ≤ i61_3.toInt ∧ i61_3.toInt ≤ 65537 ∧ TZ M_61 f23 s24 i61_3 ∧ mi_gf M_61 c 3 1 = some (.ref M2.2.1)) → st g Y19 M17 M_61 → ml (mT g) d (mb_169 g).2 (61, [(0, .ref r), (2, .ref M2.2.1), (3, .int i61_3)], [], M_61) (fun v M' => ∃ Y', (∃ x : Int32, v = some (.int x) ∧ (x = 0 ∨ x = 1)) ∧ sa g Y M Y' M' 7 (3 * n + 13)) := by
        intro n_61
        induction n_61 with
        | zero => intro i61_3 M_61 hn; exact (loop_zero hn).elim
        | succ n_61 ih_61 =>
          intro i61_3 M_61 hn_61 hi_61 hS_61
          refine ml_blk 2 (S' := (63, [(0, .ref r), (2, .ref M2.2.1), (3, .int i61_3)], [.ref M2.2.1, .int i61_3], M_61)) rfl ?_
          refine tg_pint rfl hS_61.1 h29 rfl (fun u51 g52 => ?_)
          show ml _ _ _ (66, [(0, .ref r), (2, .ref M2.2.1), (3, .int i61_3)], [.int u51, .int i61_3], M_61) _
          refine ml_if2 (S1 := (98, [(0, .ref r), (2, .ref M2.2.1), (3, .int i61_3)], [], M_61)) (S2 := (69, [(0, .ref r), (2, .ref M2.2.1), (3, .int i61_3)], [], M_61)) rfl rfl rfl (fun c_66 => ?_) (fun c_66 => ?_)
          · have c_66 : u51 ≤ i61_3 := of_decide_eq_true c_66
            refine ml_st (S' := (99, [(0, .ref r), (2, .ref M2.2.1), (3, .int i61_3)], [.int 1], M_61)) rfl rfl rfl ?_
            exact ml_ret rfl (r_z (Or.inr rfl)) (⟨Y19, ⟨_, rfl, Or.inr rfl⟩, (hA32.st hS_61).le (by omega) (by have hq1 := h31; have hq2 : (Int32.toNatClampNeg (nI n) : Int) = n := (by show ((nI n).toInt.toNat : Int) = _; rw [nI_val hn]; omega); rw [nI_val hn] at hq1; omega)⟩)
          · have c_66 : ¬ (u51 ≤ i61_3) := of_decide_eq_false c_66
            have hsz := hS_61.1.psz h29 g52
            have hlt := i_nle c_66
            refine ml_blk 2 (S' := (71, [(0, .ref r), (2, .ref M2.2.1), (3, .int i61_3)], [.int i61_3, .ref r], M_61)) rfl ?_
            obtain ⟨u53, g54, -⟩ := hS_61.1.rd h36
            refine ml_call (a := [.ref r, .int i61_3]) (rest := []) rfl (okc_t rfl rfl rfl hS_61.1 h36 (by decide)) rfl rfl (tr_takesEntry hS_61.1 h36 h37 h38 h39 h29 g54 hi_61.2.2.2 (by have := hi_61.1; omega) (by omega) (hi_61.2.2.1) (by omega)) (fun v55 M56 h57 => ?_)
            obtain ⟨⟨u58, rfl, z59⟩, h57⟩ := h57
            have g60 := h57.2.gf (nin_cons (ykne h37 h36 (by decide)) (nin_cons (ykne h37 h39 (by decide)) (nin_cons (ykne h37 hy40 (by decide)) (nin_cons (ykne h37 hy41 (by decide)) (nin_cons (ykne h37 hy42 (by decide)) (nin_cons (ykne h37 hy43 (by decide)) (nin_cons (ykne h37 h29 (by decide)) (nin_cons (ykne h37 hy45 (by decide)) nin_nil)))))))) hi_61.2.2.2
            have hS61 := hS_61.tr h57.1
            show ml _ _ _ (74, [(0, .ref r), (2, .ref M2.2.1), (3, .int i61_3)], [.int u58], M56) _
            refine ml_if (S1 := (79, [(0, .ref r), (2, .ref M2.2.1), (3, .int i61_3)], [], M56)) (S2 := (77, [(0, .ref r), (2, .ref M2.2.1), (3, .int i61_3)], [], M56)) rfl rfl rfl (fun c_74 => ?_) (fun c_74 => ?_)
            · have c_74 : ¬ u58 = 0 := of_decide_eq_true c_74
              have htz := (z59.resolve_left c_74).2
              refine ml_blk 3 (S' := (82, [(0, .ref r), (2, .ref M2.2.1), (3, .int i61_3)], [.int i61_3, .ref M2.2.1, .int i61_3], M56)) rfl ?_
              refine ml_call (a := [.ref M2.2.1, .int i61_3]) (rest := [.int i61_3]) rfl (okc_t rfl rfl rfl hS61.1 h29 (by decide)) rfl rfl (tq_isWide hS61.1 h29 (by omega)) (fun v62 M63 h64 => ?_)
              obtain ⟨⟨u65, rfl, z66⟩, h64⟩ := h64
              rw [h64]
              show ml _ _ _ (85, [(0, .ref r), (2, .ref M2.2.1), (3, .int i61_3)], [.int u65, .int i61_3], M56) _
              refine ml_if (S1 := (92, [(0, .ref r), (2, .ref M2.2.1), (3, .int i61_3)], [.int i61_3], M56)) (S2 := (88, [(0, .ref r), (2, .ref M2.2.1), (3, .int i61_3)], [.int i61_3], M56)) rfl rfl rfl (fun c_85 => ?_) (fun c_85 => ?_)
              · have c_85 : u65 = 0 := of_decide_eq_true c_85
                refine ml_st (S' := (93, [(0, .ref r), (2, .ref M2.2.1)], [.int 1, .int i61_3], M56)) rfl rfl rfl ?_
                refine ml_st (S' := (94, [(0, .ref r), (2, .ref M2.2.1)], [.int (i61_3 + 1)], M56)) rfl rfl rfl ?_
                refine ml_st (S' := (95, [(3, .int (i61_3 + 1)), (0, .ref r), (2, .ref M2.2.1)], [], M56)) rfl rfl rfl ?_
                refine ml_st (S' := (61, [(0, .ref r), (2, .ref M2.2.1), (3, .int (i61_3 + 1))], [], M56)) rfl rfl rfl ?_
                exact ih_61 (i61_3 + 1) _ (by have ek : (i61_3 + 1).toInt = i61_3.toInt + 1 := i_add (by have := hi_61.1; have h9 : (1 : Int32).toInt = 1 := rfl; omega) (by have h9 : (1 : Int32).toInt = 1 := rfl; omega); omega) (⟨by have ek : (i61_3 + 1).toInt = i61_3.toInt + 1 := i_add (by have := hi_61.1; have h9 : (1 : Int32).toInt = 1 := rfl; omega) (by have h9 : (1 : Int32).toInt = 1 := rfl; omega); have := hi_61.1; omega, by have ek : (i61_3 + 1).toInt = i61_3.toInt + 1 := i_add (by have := hi_61.1; have h9 : (1 : Int32).toInt = 1 := rfl; omega) (by have h9 : (1 : Int32).toInt = 1 := rfl; omega); omega, htz, g60⟩) hS61
              · have c_85 : ¬ (u65 = 0) := of_decide_eq_false c_85
                refine ml_st (S' := (89, [(0, .ref r), (2, .ref M2.2.1), (3, .int i61_3)], [.int 2, .int i61_3], M56)) rfl rfl rfl ?_
                refine ml_st (S' := (93, [(0, .ref r), (2, .ref M2.2.1)], [.int 2, .int i61_3], M56)) rfl rfl rfl ?_
                refine ml_st (S' := (94, [(0, .ref r), (2, .ref M2.2.1)], [.int (i61_3 + 2)], M56)) rfl rfl rfl ?_
                refine ml_st (S' := (95, [(3, .int (i61_3 + 2)), (0, .ref r), (2, .ref M2.2.1)], [], M56)) rfl rfl rfl ?_
                refine ml_st (S' := (61, [(0, .ref r), (2, .ref M2.2.1), (3, .int (i61_3 + 2))], [], M56)) rfl rfl rfl ?_
                exact ih_61 (i61_3 + 2) _ (by have ek : (i61_3 + 2).toInt = i61_3.toInt + 2 := i_add (by have := hi_61.1; have h9 : (2 : Int32).toInt = 2 := rfl; omega) (by have h9 : (2 : Int32).toInt = 2 := rfl; omega); omega) (⟨by have ek : (i61_3 + 2).toInt = i61_3.toInt + 2 := i_add (by have := hi_61.1; have h9 : (2 : Int32).toInt = 2 := rfl; omega) (by have h9 : (2 : Int32).toInt = 2 := rfl; omega); have := hi_61.1; omega, by have ek : (i61_3 + 2).toInt = i61_3.toInt + 2 := i_add (by have := hi_61.1; have h9 : (2 : Int32).toInt = 2 := rfl; omega) (by have h9 : (2 : Int32).toInt = 2 := rfl; omega); omega, htz.le (by have e1 : (i61_3 + 1).toInt = i61_3.toInt + 1 := inc_lt (Int32.not_le.mp c_66); have ek : (i61_3 + 2).toInt = i61_3.toInt + 2 := i_add (by have := hi_61.1; have h9 : (2 : Int32).toInt = 2 := rfl; omega) (by have h9 : (2 : Int32).toInt = 2 := rfl; omega); omega), g60⟩) hS61
            · have c_74 : ¬ (¬ u58 = 0) := of_decide_eq_false c_74
              refine ml_st (S' := (78, [(0, .ref r), (2, .ref M2.2.1), (3, .int i61_3)], [.int 0], M56)) rfl rfl rfl ?_
              exact ml_ret rfl (r_z (Or.inl rfl)) (⟨Y19, ⟨_, rfl, Or.inl rfl⟩, (hA32.st hS61).le (by omega) (by have hq1 := h31; have hq2 : (Int32.toNatClampNeg (nI n) : Int) = n := (by show ((nI n).toInt.toNat : Int) = _; rw [nI_val hn]; omega); rw [nI_val hn] at hq1; omega)⟩)
      exact L_61 _ 1 _ (Nat.le_refl _) (⟨by decide, by decide, (h30 _).fr (f48.1 f23 (ykne hy42 h37 (by decide))) (f48.1 s24 (ykne hy43 h37 (by decide))), f48.2.2.1⟩) hS47
    · have c_19 : ¬ (¬ (sp_u2 n (Y.2 da) a0) = 0) := of_decide_eq_false c_19
      refine ml_st (S' := (23, [(1, .int a0), (0, .ref r)], [.ref r], M2)) rfl rfl rfl ?_
      refine tg_ref (S' := (26, [(1, .int a0), (0, .ref r)], [.ref vd], M2)) rfl hS6.1 hY0 (by decide) rfl rfl ?_
      refine ml_blk 2 (S' := (28, [(1, .int a0), (0, .ref r)], [.int a0, .int 4, .ref vd], M2)) rfl ?_
      refine ml_call (a := [.ref vd, .int 4, .int a0]) (rest := []) rfl (okc_t rfl rfl rfl hS6.1 hY3 (by decide)) rfl rfl (tw_Ve_wrong hS6.1 hY3 (by omega)) (fun v67 M68 h69 => ?_)
      obtain ⟨rfl, h69⟩ := h69
      have g71 := h69.2.gf (nin_cons (ykne hY0 hY3 (by decide)) nin_nil) t7.2.2.1
      have g72 := h69.2.gf (nin_cons (ykne hY0 hY3 (by decide)) nin_nil) t7.2.2.2
      have hS73 := hS6.tr h69.1
      show ml _ _ _ (31, [(1, .int a0), (0, .ref r)], [.int 0], M68) _
      exact ml_ret rfl (r_z (Or.inl rfl)) (⟨Y, ⟨_, rfl, Or.inl rfl⟩, (hA.st hS73).le (by omega) (by omega)⟩)
  · have c_10 : ¬ (¬ u4 = 0) := of_decide_eq_false c_10
    refine ml_st (S' := (14, [(1, .int a0), (0, .ref r)], [.int 0], M2)) rfl rfl rfl ?_
    exact ml_ret rfl (r_z (Or.inl rfl)) (⟨Y, ⟨_, rfl, Or.inl rfl⟩, (hA.st hS6).le (by omega) (by omega)⟩)
