/-! the reader's ways through a file (laid by wip/p4/d2.py) -/
set_option maxHeartbeats 1000000 in
theorem dx_takesHead {g : xe_G} {M : mi_H} {r c b vd da n : Nat} {f : Nat → Int32} {it ru wa mi ma fa ic ac aa k1 k2 k3 k4 k5 k6 k7 : Int32} {u1 u6 u7 : Value} (h_r : M.1 r = some (ob 9 [.ref c, .ref b, .ref vd, .int (nI 0), .int it])) (h_b : M.1 b = some (ob 1 [.ref da])) (h_da : M.1 da = some (ar .byte n f)) (h_vd : M.1 vd = some (ob 10 [.int ru, .int wa])) (h_c : M.1 c = some (ob 3 [.ref b, u1, .int mi, .int ma, .int fa, .int ic, u6, u7, .int ac, .int aa, .int k1, .int k2, .int k3, .int k4, .int k5, .int k6, .int k7])) (hn : n ≤ 65540) : pt (mT g) 165 [.ref r] M (fun v M' => ((s_head f n = (0, 0)) ∧ v = some (.int 1) ∧ M'.1 r = some (ob 9 [.ref c, .ref b, .ref vd, .int (nI 8), .int (nI (by2 f 6))]) ∧ M'.1 vd = some (ob 10 [.int ru, .int wa]) ∧ M'.1 c = some (ob 3 [.ref b, u1, .int (nI (by2 f 4)), .int (nI (by2 f 6)), .int fa, .int ic, u6, u7, .int ac, .int aa, .int k1, .int k2, .int k3, .int k4, .int k5, .int k6, .int k7]) ∧ fm [r, vd, c] M M') ∨ (∃ (e1 e2 : Nat), (s_head f n = (e1, e2)) ∧ (¬ e1 = 0) ∧ v = some (.int 0) ∧ M'.1 vd = some (ob 10 [.int (nI e1), .int (nI e2)]) ∧ fm [r, vd, c] M M')) := by
  refine pt_in (b := mb_165 g) rfl (fun kf => ?_)
  show pl (mT g) kf (mb_165 g).2 (0, [(0, .ref r)], [], M) _
  have hF : fm [r, vd, c] M M := fm.rf
  refine ps_st (S' := (1, [(0, .ref r)], [.ref r], M)) rfl rfl rfl ?_
  refine ps_st (S' := (2, [(0, .ref r)], [.int 4, .ref r], M)) rfl rfl rfl ?_
  refine pl_call (a := [.ref r, .int 4]) (rest := []) rfl rfl rfl (dx_takes4 h_r h_b h_da h_vd (hn) (by omega)) (fun v1 M2 q3 => ?_)
  rcases q3 with q3 | q3
  · skip
    obtain ⟨q2_ok, rfl, h4, h5, f6⟩ := q3
    have h8 := (f6.1 b (nin2 (ob_ne h_b h_r (by decide)) (ob_ne h_b h_vd (by decide)))).trans h_b
    have h9 := (f6.1 da (nin2 (Ne.symm (ob_ar h_r h_da)) (Ne.symm (ob_ar h_vd h_da)))).trans h_da
    have h10 := (f6.1 c (nin2 (ob_ne h_c h_r (by decide)) (ob_ne h_c h_vd (by decide)))).trans h_c
    have hF11 := hF.tr f6 (by simp)
    show pl _ _ _ (5, [(0, .ref r)], [.int 1], M2) _
    refine ps_if (S1 := (10, [(0, .ref r)], [], M2)) (S2 := (8, [(0, .ref r)], [], M2)) rfl rfl rfl (fun c_5 => ?_) (fun c_5 => ?_)
    rotate_left
    · exact absurd (by decide) (of_decide_eq_false c_5)
    refine ps_st (S' := (11, [(0, .ref r)], [.ref r], M2)) rfl rfl rfl ?_
    refine ps_get (S' := (14, [(0, .ref r)], [.int (nI (by4 f 0))], M2)) rfl h4 rfl rfl ?_
    refine ps_st (S' := (16, [(0, .ref r)], [.int (-889275714), .int (nI (by4 f 0))], M2)) rfl rfl rfl ?_
    refine ps_if2 (S1 := (29, [(0, .ref r)], [], M2)) (S2 := (19, [(0, .ref r)], [], M2)) rfl rfl rfl (fun c_16 => ?_) (fun c_16 => ?_)
    · have c_16 : (nI (by4 f 0)) = (-889275714) := of_decide_eq_true c_16
      have n_16 : by4 f 0 = 3405691582 := (nI_big (p := by4 f 0) (n := 3405691582) (by4_lt _ _) (by decide)).mp c_16
      refine ps_st (S' := (30, [(0, .ref r)], [.ref r], M2)) rfl rfl rfl ?_
      refine ps_st (S' := (31, [(0, .ref r)], [.int 2, .ref r], M2)) rfl rfl rfl ?_
      refine pl_call (a := [.ref r, .int 2]) (rest := []) rfl rfl rfl (dx_takes2 h4 h8 h9 h5 (hn) (by omega)) (fun v12 M13 q14 => ?_)
      rcases q14 with q14 | q14
      · skip
        obtain ⟨q31_ok, rfl, h15, h16, f17⟩ := q14
        have h19 := (f17.1 b (nin2 (ob_ne h8 h4 (by decide)) (ob_ne h8 h5 (by decide)))).trans h8
        have h20 := (f17.1 da (nin2 (Ne.symm (ob_ar h4 h9)) (Ne.symm (ob_ar h5 h9)))).trans h9
        have h21 := (f17.1 c (nin2 (ob_ne h10 h4 (by decide)) (ob_ne h10 h5 (by decide)))).trans h10
        have hF22 := hF11.tr f17 (by simp)
        show pl _ _ _ (34, [(0, .ref r)], [.int 1], M13) _
        refine ps_if (S1 := (39, [(0, .ref r)], [], M13)) (S2 := (37, [(0, .ref r)], [], M13)) rfl rfl rfl (fun c_34 => ?_) (fun c_34 => ?_)
        rotate_left
        · exact absurd (by decide) (of_decide_eq_false c_34)
        refine ps_st (S' := (40, [(0, .ref r)], [.ref r], M13)) rfl rfl rfl ?_
        refine ps_get (S' := (43, [(0, .ref r)], [.ref c], M13)) rfl h15 rfl rfl ?_
        refine ps_st (S' := (44, [(0, .ref r)], [.ref r, .ref c], M13)) rfl rfl rfl ?_
        refine ps_get (S' := (47, [(0, .ref r)], [.int (nI (by2 f 4)), .ref c], M13)) rfl h15 rfl rfl ?_
        refine ps_put (l' := [.ref b, u1, .int (nI (by2 f 4)), .int ma, .int fa, .int ic, u6, u7, .int ac, .int aa, .int k1, .int k2, .int k3, .int k4, .int k5, .int k6, .int k7]) rfl h21 rfl rfl (fun M23 h24 f25 z26 => ?_)
        have h27 := (f25 r (ob_ne h15 h21 (by decide))).trans h15
        have h28 := (f25 b (ob_ne h19 h21 (by decide))).trans h19
        have h29 := (f25 da (Ne.symm (ob_ar h21 h20))).trans h20
        have h30 := (f25 vd (ob_ne h16 h21 (by decide))).trans h16
        have hF31 := hF22.up (by simp) f25 z26
        show pl _ _ _ (50, [(0, .ref r)], [], M23) _
        refine ps_st (S' := (51, [(0, .ref r)], [.ref r], M23)) rfl rfl rfl ?_
        refine ps_st (S' := (52, [(0, .ref r)], [.int 2, .ref r], M23)) rfl rfl rfl ?_
        refine pl_call (a := [.ref r, .int 2]) (rest := []) rfl rfl rfl (dx_takes2 h27 h28 h29 h30 (hn) (by omega)) (fun v32 M33 q34 => ?_)
        rcases q34 with q34 | q34
        · skip
          obtain ⟨q52_ok, rfl, h35, h36, f37⟩ := q34
          have h39 := (f37.1 b (nin2 (ob_ne h28 h27 (by decide)) (ob_ne h28 h30 (by decide)))).trans h28
          have h40 := (f37.1 da (nin2 (Ne.symm (ob_ar h27 h29)) (Ne.symm (ob_ar h30 h29)))).trans h29
          have h41 := (f37.1 c (nin2 (ob_ne h24 h27 (by decide)) (ob_ne h24 h30 (by decide)))).trans h24
          have hF42 := hF31.tr f37 (by simp)
          show pl _ _ _ (55, [(0, .ref r)], [.int 1], M33) _
          refine ps_if (S1 := (60, [(0, .ref r)], [], M33)) (S2 := (58, [(0, .ref r)], [], M33)) rfl rfl rfl (fun c_55 => ?_) (fun c_55 => ?_)
          rotate_left
          · exact absurd (by decide) (of_decide_eq_false c_55)
          refine ps_st (S' := (61, [(0, .ref r)], [.ref r], M33)) rfl rfl rfl ?_
          refine ps_get (S' := (64, [(0, .ref r)], [.ref c], M33)) rfl h35 rfl rfl ?_
          refine ps_st (S' := (65, [(0, .ref r)], [.ref r, .ref c], M33)) rfl rfl rfl ?_
          refine ps_get (S' := (68, [(0, .ref r)], [.int (nI (by2 f 6)), .ref c], M33)) rfl h35 rfl rfl ?_
          refine ps_put (l' := [.ref b, u1, .int (nI (by2 f 4)), .int (nI (by2 f 6)), .int fa, .int ic, u6, u7, .int ac, .int aa, .int k1, .int k2, .int k3, .int k4, .int k5, .int k6, .int k7]) rfl h41 rfl rfl (fun M43 h44 f45 z46 => ?_)
          have h47 := (f45 r (ob_ne h35 h41 (by decide))).trans h35
          have h48 := (f45 b (ob_ne h39 h41 (by decide))).trans h39
          have h49 := (f45 da (Ne.symm (ob_ar h41 h40))).trans h40
          have h50 := (f45 vd (ob_ne h36 h41 (by decide))).trans h36
          have hF51 := hF42.up (by simp) f45 z46
          show pl _ _ _ (71, [(0, .ref r)], [], M43) _
          refine ps_st (S' := (72, [(0, .ref r)], [.ref r], M43)) rfl rfl rfl ?_
          refine ps_get (S' := (75, [(0, .ref r)], [.int (nI (by2 f 6))], M43)) rfl h47 rfl rfl ?_
          refine ps_st (S' := (77, [(0, .ref r)], [.int 45, .int (nI (by2 f 6))], M43)) rfl rfl rfl ?_
          refine ps_if2 (S1 := (108, [(0, .ref r)], [], M43)) (S2 := (80, [(0, .ref r)], [], M43)) rfl rfl rfl (fun c_77 => ?_) (fun c_77 => ?_)
          · have c_77 : (nI (by2 f 6)) < 45 := of_decide_eq_true c_77
            have n_77 : by2 f 6 < 45 := (lt_nI (p := by2 f 6) (n := 45) (Nat.lt_trans (by2_lt _ _) (by decide)) (by decide)).mp c_77
            refine ps_st (S' := (109, [(0, .ref r)], [.ref r], M43)) rfl rfl rfl ?_
            refine ps_get (S' := (112, [(0, .ref r)], [.ref vd], M43)) rfl h47 rfl rfl ?_
            refine ps_st (S' := (113, [(0, .ref r)], [.int 3, .ref vd], M43)) rfl rfl rfl ?_
            refine ps_st (S' := (114, [(0, .ref r)], [.int 4, .int 3, .ref vd], M43)) rfl rfl rfl ?_
            refine pl_call (a := [.ref vd, .int 3, .int 4]) (rest := []) rfl rfl rfl (dx_wrong h50) (fun v52 M53 q54 => ?_)
            obtain ⟨rfl, h55, f56⟩ := q54
            have h58 := (f56.1 r (nin1 (ob_ne h47 h50 (by decide)))).trans h47
            have h59 := (f56.1 b (nin1 (ob_ne h48 h50 (by decide)))).trans h48
            have h60 := (f56.1 da (nin1 (Ne.symm (ob_ar h50 h49)))).trans h49
            have h61 := (f56.1 c (nin1 (ob_ne h44 h50 (by decide)))).trans h44
            have hF62 := hF51.tr f56 (by simp)
            show pl _ _ _ (117, [(0, .ref r)], [.int 0], M53) _
            exact ps_ret rfl rfl (Or.inr ⟨3, 4, by
                have b6 := by2_lt f 6
                have b4 := by2_lt f 4
                unfold s_head
                repeat' split
                all_goals first | rfl | (exfalso; omega), by decide, rfl, h55, hF62⟩)
          · have c_77 : ¬ ((nI (by2 f 6)) < 45) := of_decide_eq_false c_77
            have n_77 : ¬ (by2 f 6 < 45) := fun h9 => c_77 ((lt_nI (p := by2 f 6) (n := 45) (Nat.lt_trans (by2_lt _ _) (by decide)) (by decide)).mpr h9)
            refine ps_st (S' := (81, [(0, .ref r)], [.ref r], M43)) rfl rfl rfl ?_
            refine ps_get (S' := (84, [(0, .ref r)], [.int (nI (by2 f 6))], M43)) rfl h47 rfl rfl ?_
            refine ps_st (S' := (86, [(0, .ref r)], [.int 61, .int (nI (by2 f 6))], M43)) rfl rfl rfl ?_
            refine ps_if2 (S1 := (108, [(0, .ref r)], [], M43)) (S2 := (89, [(0, .ref r)], [], M43)) rfl rfl rfl (fun c_86 => ?_) (fun c_86 => ?_)
            · have c_86 : 61 < (nI (by2 f 6)) := of_decide_eq_true c_86
              have n_86 : 61 < by2 f 6 := (lt_nI (p := 61) (n := by2 f 6) (by decide) (Nat.lt_trans (by2_lt _ _) (by decide))).mp c_86
              refine ps_st (S' := (109, [(0, .ref r)], [.ref r], M43)) rfl rfl rfl ?_
              refine ps_get (S' := (112, [(0, .ref r)], [.ref vd], M43)) rfl h47 rfl rfl ?_
              refine ps_st (S' := (113, [(0, .ref r)], [.int 3, .ref vd], M43)) rfl rfl rfl ?_
              refine ps_st (S' := (114, [(0, .ref r)], [.int 4, .int 3, .ref vd], M43)) rfl rfl rfl ?_
              refine pl_call (a := [.ref vd, .int 3, .int 4]) (rest := []) rfl rfl rfl (dx_wrong h50) (fun v63 M64 q65 => ?_)
              obtain ⟨rfl, h66, f67⟩ := q65
              have h69 := (f67.1 r (nin1 (ob_ne h47 h50 (by decide)))).trans h47
              have h70 := (f67.1 b (nin1 (ob_ne h48 h50 (by decide)))).trans h48
              have h71 := (f67.1 da (nin1 (Ne.symm (ob_ar h50 h49)))).trans h49
              have h72 := (f67.1 c (nin1 (ob_ne h44 h50 (by decide)))).trans h44
              have hF73 := hF51.tr f67 (by simp)
              show pl _ _ _ (117, [(0, .ref r)], [.int 0], M64) _
              exact ps_ret rfl rfl (Or.inr ⟨3, 4, by
                  have b6 := by2_lt f 6
                  have b4 := by2_lt f 4
                  unfold s_head
                  repeat' split
                  all_goals first | rfl | (exfalso; omega), by decide, rfl, h66, hF73⟩)
            · have c_86 : ¬ (61 < (nI (by2 f 6))) := of_decide_eq_false c_86
              have n_86 : ¬ (61 < by2 f 6) := fun h9 => c_86 ((lt_nI (p := 61) (n := by2 f 6) (by decide) (Nat.lt_trans (by2_lt _ _) (by decide))).mpr h9)
              refine ps_st (S' := (90, [(0, .ref r)], [.ref r], M43)) rfl rfl rfl ?_
              refine ps_get (S' := (93, [(0, .ref r)], [.int (nI (by2 f 6))], M43)) rfl h47 rfl rfl ?_
              refine ps_st (S' := (95, [(0, .ref r)], [.int 56, .int (nI (by2 f 6))], M43)) rfl rfl rfl ?_
              refine ps_if2 (S1 := (118, [], [], M43)) (S2 := (98, [(0, .ref r)], [], M43)) rfl rfl rfl (fun c_95 => ?_) (fun c_95 => ?_)
              · have c_95 : (nI (by2 f 6)) < 56 := of_decide_eq_true c_95
                have n_95 : by2 f 6 < 56 := (lt_nI (p := by2 f 6) (n := 56) (Nat.lt_trans (by2_lt _ _) (by decide)) (by decide)).mp c_95
                refine ps_st (S' := (119, [], [.int 1], M43)) rfl rfl rfl ?_
                exact ps_ret rfl rfl (Or.inl ⟨by
                    have b6 := by2_lt f 6
                    have b4 := by2_lt f 4
                    unfold s_head
                    repeat' split
                    all_goals first | rfl | (exfalso; omega), rfl, h47, h50, h44, hF51⟩)
              · have c_95 : ¬ ((nI (by2 f 6)) < 56) := of_decide_eq_false c_95
                have n_95 : ¬ (by2 f 6 < 56) := fun h9 => c_95 ((lt_nI (p := by2 f 6) (n := 56) (Nat.lt_trans (by2_lt _ _) (by decide)) (by decide)).mpr h9)
                refine ps_st (S' := (99, [(0, .ref r)], [.ref r], M43)) rfl rfl rfl ?_
                refine ps_get (S' := (102, [(0, .ref r)], [.ref c], M43)) rfl h47 rfl rfl ?_
                refine ps_get (S' := (105, [(0, .ref r)], [.int (nI (by2 f 4))], M43)) rfl h44 rfl rfl ?_
                refine ps_if (S1 := (118, [], [], M43)) (S2 := (108, [(0, .ref r)], [], M43)) rfl rfl rfl (fun c_105 => ?_) (fun c_105 => ?_)
                · have c_105 : (nI (by2 f 4)) = 0 := of_decide_eq_true c_105
                  have n_105 : by2 f 4 = 0 := (eq_nI (p := by2 f 4) (n := 0) (Nat.lt_trans (by2_lt _ _) (by decide)) (by decide)).mp c_105
                  refine ps_st (S' := (119, [], [.int 1], M43)) rfl rfl rfl ?_
                  exact ps_ret rfl rfl (Or.inl ⟨by
                      have b6 := by2_lt f 6
                      have b4 := by2_lt f 4
                      unfold s_head
                      repeat' split
                      all_goals first | rfl | (exfalso; omega), rfl, h47, h50, h44, hF51⟩)
                · have c_105 : ¬ ((nI (by2 f 4)) = 0) := of_decide_eq_false c_105
                  have n_105 : ¬ (by2 f 4 = 0) := fun h9 => c_105 ((eq_nI (p := by2 f 4) (n := 0) (Nat.lt_trans (by2_lt _ _) (by decide)) (by decide)).mpr h9)
                  refine ps_st (S' := (109, [(0, .ref r)], [.ref r], M43)) rfl rfl rfl ?_
                  refine ps_get (S' := (112, [(0, .ref r)], [.ref vd], M43)) rfl h47 rfl rfl ?_
                  refine ps_st (S' := (113, [(0, .ref r)], [.int 3, .ref vd], M43)) rfl rfl rfl ?_
                  refine ps_st (S' := (114, [(0, .ref r)], [.int 4, .int 3, .ref vd], M43)) rfl rfl rfl ?_
                  refine pl_call (a := [.ref vd, .int 3, .int 4]) (rest := []) rfl rfl rfl (dx_wrong h50) (fun v74 M75 q76 => ?_)
                  obtain ⟨rfl, h77, f78⟩ := q76
                  have h80 := (f78.1 r (nin1 (ob_ne h47 h50 (by decide)))).trans h47
                  have h81 := (f78.1 b (nin1 (ob_ne h48 h50 (by decide)))).trans h48
                  have h82 := (f78.1 da (nin1 (Ne.symm (ob_ar h50 h49)))).trans h49
                  have h83 := (f78.1 c (nin1 (ob_ne h44 h50 (by decide)))).trans h44
                  have hF84 := hF51.tr f78 (by simp)
                  show pl _ _ _ (117, [(0, .ref r)], [.int 0], M75) _
                  exact ps_ret rfl rfl (Or.inr ⟨3, 4, by
                      have b6 := by2_lt f 6
                      have b4 := by2_lt f 4
                      unfold s_head
                      repeat' split
                      all_goals first | rfl | (exfalso; omega), by decide, rfl, h77, hF84⟩)
        · skip
          obtain ⟨q52_no, rfl, h85, h86, f87⟩ := q34
          have h89 := (f87.1 b (nin2 (ob_ne h28 h27 (by decide)) (ob_ne h28 h30 (by decide)))).trans h28
          have h90 := (f87.1 da (nin2 (Ne.symm (ob_ar h27 h29)) (Ne.symm (ob_ar h30 h29)))).trans h29
          have h91 := (f87.1 c (nin2 (ob_ne h24 h27 (by decide)) (ob_ne h24 h30 (by decide)))).trans h24
          have hF92 := hF31.tr f87 (by simp)
          show pl _ _ _ (55, [(0, .ref r)], [.int 0], M33) _
          refine ps_if (S1 := (60, [(0, .ref r)], [], M33)) (S2 := (58, [(0, .ref r)], [], M33)) rfl rfl rfl (fun c_55 => ?_) (fun c_55 => ?_)
          · exact absurd (of_decide_eq_true c_55) (by decide)
          refine ps_st (S' := (59, [(0, .ref r)], [.int 0], M33)) rfl rfl rfl ?_
          exact ps_ret rfl rfl (Or.inr ⟨1, 6, by
              have b6 := by2_lt f 6
              have b4 := by2_lt f 4
              unfold s_head
              repeat' split
              all_goals first | rfl | (exfalso; omega), by decide, rfl, h86, hF92⟩)
      · skip
        obtain ⟨q31_no, rfl, h93, h94, f95⟩ := q14
        have h97 := (f95.1 b (nin2 (ob_ne h8 h4 (by decide)) (ob_ne h8 h5 (by decide)))).trans h8
        have h98 := (f95.1 da (nin2 (Ne.symm (ob_ar h4 h9)) (Ne.symm (ob_ar h5 h9)))).trans h9
        have h99 := (f95.1 c (nin2 (ob_ne h10 h4 (by decide)) (ob_ne h10 h5 (by decide)))).trans h10
        have hF100 := hF11.tr f95 (by simp)
        show pl _ _ _ (34, [(0, .ref r)], [.int 0], M13) _
        refine ps_if (S1 := (39, [(0, .ref r)], [], M13)) (S2 := (37, [(0, .ref r)], [], M13)) rfl rfl rfl (fun c_34 => ?_) (fun c_34 => ?_)
        · exact absurd (of_decide_eq_true c_34) (by decide)
        refine ps_st (S' := (38, [(0, .ref r)], [.int 0], M13)) rfl rfl rfl ?_
        exact ps_ret rfl rfl (Or.inr ⟨1, 4, by
            have b6 := by2_lt f 6
            have b4 := by2_lt f 4
            unfold s_head
            repeat' split
            all_goals first | rfl | (exfalso; omega), by decide, rfl, h94, hF100⟩)
    · have c_16 : ¬ ((nI (by4 f 0)) = (-889275714)) := of_decide_eq_false c_16
      have n_16 : ¬ (by4 f 0 = 3405691582) := fun h9 => c_16 ((nI_big (p := by4 f 0) (n := 3405691582) (by4_lt _ _) (by decide)).mpr h9)
      refine ps_st (S' := (20, [(0, .ref r)], [.ref r], M2)) rfl rfl rfl ?_
      refine ps_get (S' := (23, [(0, .ref r)], [.ref vd], M2)) rfl h4 rfl rfl ?_
      refine ps_st (S' := (24, [(0, .ref r)], [.int 2, .ref vd], M2)) rfl rfl rfl ?_
      refine ps_st (S' := (25, [(0, .ref r)], [.int 0, .int 2, .ref vd], M2)) rfl rfl rfl ?_
      refine pl_call (a := [.ref vd, .int 2, .int 0]) (rest := []) rfl rfl rfl (dx_wrong h5) (fun v101 M102 q103 => ?_)
      obtain ⟨rfl, h104, f105⟩ := q103
      have h107 := (f105.1 r (nin1 (ob_ne h4 h5 (by decide)))).trans h4
      have h108 := (f105.1 b (nin1 (ob_ne h8 h5 (by decide)))).trans h8
      have h109 := (f105.1 da (nin1 (Ne.symm (ob_ar h5 h9)))).trans h9
      have h110 := (f105.1 c (nin1 (ob_ne h10 h5 (by decide)))).trans h10
      have hF111 := hF11.tr f105 (by simp)
      show pl _ _ _ (28, [(0, .ref r)], [.int 0], M102) _
      exact ps_ret rfl rfl (Or.inr ⟨2, 0, by
          have b6 := by2_lt f 6
          have b4 := by2_lt f 4
          unfold s_head
          repeat' split
          all_goals first | rfl | (exfalso; omega), by decide, rfl, h104, hF111⟩)
  · skip
    obtain ⟨q2_no, rfl, h112, h113, f114⟩ := q3
    have h116 := (f114.1 b (nin2 (ob_ne h_b h_r (by decide)) (ob_ne h_b h_vd (by decide)))).trans h_b
    have h117 := (f114.1 da (nin2 (Ne.symm (ob_ar h_r h_da)) (Ne.symm (ob_ar h_vd h_da)))).trans h_da
    have h118 := (f114.1 c (nin2 (ob_ne h_c h_r (by decide)) (ob_ne h_c h_vd (by decide)))).trans h_c
    have hF119 := hF.tr f114 (by simp)
    show pl _ _ _ (5, [(0, .ref r)], [.int 0], M2) _
    refine ps_if (S1 := (10, [(0, .ref r)], [], M2)) (S2 := (8, [(0, .ref r)], [], M2)) rfl rfl rfl (fun c_5 => ?_) (fun c_5 => ?_)
    · exact absurd (of_decide_eq_true c_5) (by decide)
    refine ps_st (S' := (9, [(0, .ref r)], [.int 0], M2)) rfl rfl rfl ?_
    exact ps_ret rfl rfl (Or.inr ⟨1, 0, by
        have b6 := by2_lt f 6
        have b4 := by2_lt f 4
        unfold s_head
        repeat' split
        all_goals first | rfl | (exfalso; omega), by decide, rfl, h113, hF119⟩)
set_option maxHeartbeats 1000000 in
theorem dx_takesAttributes {g : xe_G} {M : mi_H} {r c b vd da n p : Nat} {f : Nat → Int32} {it ru wa : Int32} (h_r : M.1 r = some (ob 9 [.ref c, .ref b, .ref vd, .int (nI p), .int it])) (h_b : M.1 b = some (ob 1 [.ref da])) (h_da : M.1 da = some (ar .byte n f)) (h_vd : M.1 vd = some (ob 10 [.int ru, .int wa])) (hn : n ≤ 65540) (hp : p ≤ n) : pt (mT g) 160 [.ref r] M (fun v M' => (∃ (p' : Nat) (it' : Int32), (s_attributes f n p = .inr p') ∧ v = some (.int 1) ∧ M'.1 r = some (ob 9 [.ref c, .ref b, .ref vd, .int (nI p'), .int it']) ∧ M'.1 vd = some (ob 10 [.int ru, .int wa]) ∧ fm [r, vd] M M') ∨ (∃ (e : Nat × Nat), (s_attributes f n p = .inl e) ∧ v = some (.int 0) ∧ M'.1 vd = some (ob 10 [.int (nI e.1), .int (nI e.2)]) ∧ fm [r, vd] M M')) := by
  refine pt_in (b := mb_160 g) rfl (fun kf => ?_)
  show pl (mT g) kf (mb_160 g).2 (0, [(0, .ref r)], [], M) _
  have hF : fm [r, vd] M M := fm.rf
  have hb2 := by2_lt f p
  have L17 : ∀ (kf : Nat) (i p1 : Nat) (it1 : Int32) (M1 : mi_H), (M1.1 r = some (ob 9 [.ref c, .ref b, .ref vd, .int (nI p1), .int it1])) → (M1.1 b = some (ob 1 [.ref da])) → (M1.1 da = some (ar .byte n f)) → (M1.1 vd = some (ob 10 [.int ru, .int wa])) → (fm [r, vd] M M1) → (i ≤ by2 f p) → (p1 ≤ n) → (p + 2 ≤ n) → (s_atts f n (by2 f p - i) p1 = s_atts f n (by2 f p) (p + 2)) → pl (mT g) kf (mb_160 g).2 (17, [(0, .ref r), (1, .int (nI (by2 f p))), (2, .int (nI i))], [], M1) (fun v M' => (∃ (p' : Nat) (it' : Int32), (s_attributes f n p = .inr p') ∧ v = some (.int 1) ∧ M'.1 r = some (ob 9 [.ref c, .ref b, .ref vd, .int (nI p'), .int it']) ∧ M'.1 vd = some (ob 10 [.int ru, .int wa]) ∧ fm [r, vd] M M') ∨ (∃ (e : Nat × Nat), (s_attributes f n p = .inl e) ∧ v = some (.int 0) ∧ M'.1 vd = some (ob 10 [.int (nI e.1), .int (nI e.2)]) ∧ fm [r, vd] M M')) := by
    intro kf
    induction kf with
    | zero => intros; exact pl_0
    | succ kf ih =>
      intro i p1 it1 M1 hl_r hl_b hl_da hl_vd hF1 hi hp1 hp2 hs
      have hb2 := by2_lt f p
      refine ps_st1 (S' := (18, [(0, .ref r), (1, .int (nI (by2 f p))), (2, .int (nI i))], [.int (nI i)], M1)) rfl rfl rfl ?_
      refine ps_st (S' := (19, [(0, .ref r), (1, .int (nI (by2 f p))), (2, .int (nI i))], [.int (nI (by2 f p)), .int (nI i)], M1)) rfl rfl rfl ?_
      refine ps_if2 (S1 := (98, [(0, .ref r), (1, .int (nI (by2 f p))), (2, .int (nI i))], [], M1)) (S2 := (22, [(0, .ref r), (1, .int (nI (by2 f p))), (2, .int (nI i))], [], M1)) rfl rfl rfl (fun c_19 => ?_) (fun c_19 => ?_)
      · have c_19 : (nI (by2 f p)) ≤ (nI i) := of_decide_eq_true c_19
        have n_19 : by2 f p ≤ i := (le_nI (p := by2 f p) (n := i) (Nat.lt_trans (by2_lt _ _) (by decide)) (by omega)).mp c_19
        refine ps_st (S' := (99, [(0, .ref r), (1, .int (nI (by2 f p))), (2, .int (nI i))], [.int 1], M1)) rfl rfl rfl ?_
        exact ps_ret rfl rfl (Or.inl ⟨p1, it1, by unfold s_attributes; rw [if_neg (by omega), ← hs, show by2 f p - i = 0 by omega]; rfl, rfl, hl_r, hl_vd, hF1⟩)
      · have c_19 : ¬ ((nI (by2 f p)) ≤ (nI i)) := of_decide_eq_false c_19
        have n_19 : ¬ (by2 f p ≤ i) := fun h9 => c_19 ((le_nI (p := by2 f p) (n := i) (Nat.lt_trans (by2_lt _ _) (by decide)) (by omega)).mpr h9)
        refine ps_st (S' := (23, [(0, .ref r), (1, .int (nI (by2 f p))), (2, .int (nI i))], [.ref r], M1)) rfl rfl rfl ?_
        refine ps_st (S' := (24, [(0, .ref r), (1, .int (nI (by2 f p))), (2, .int (nI i))], [.int 2, .ref r], M1)) rfl rfl rfl ?_
        refine pl_call (a := [.ref r, .int 2]) (rest := []) rfl rfl rfl (dx_takes2 hl_r hl_b hl_da hl_vd (hn) (by omega)) (fun v1 M2 q3 => ?_)
        rcases q3 with q3 | q3
        · skip
          obtain ⟨q24_ok, rfl, h4, h5, f6⟩ := q3
          have h8 := (f6.1 b (nin2 (ob_ne hl_b hl_r (by decide)) (ob_ne hl_b hl_vd (by decide)))).trans hl_b
          have h9 := (f6.1 da (nin2 (Ne.symm (ob_ar hl_r hl_da)) (Ne.symm (ob_ar hl_vd hl_da)))).trans hl_da
          have hF10 := hF1.tr f6 (by simp)
          show pl _ _ _ (27, [(0, .ref r), (1, .int (nI (by2 f p))), (2, .int (nI i))], [.int 1], M2) _
          refine ps_if (S1 := (38, [], [], M2)) (S2 := (30, [(0, .ref r), (1, .int (nI (by2 f p))), (2, .int (nI i))], [], M2)) rfl rfl rfl (fun c_27 => ?_) (fun c_27 => ?_)
          · exact absurd (of_decide_eq_true c_27) (by decide)
          refine ps_st (S' := (31, [(0, .ref r), (1, .int (nI (by2 f p))), (2, .int (nI i))], [.ref r], M2)) rfl rfl rfl ?_
          refine ps_st (S' := (32, [(0, .ref r), (1, .int (nI (by2 f p))), (2, .int (nI i))], [.int 4, .ref r], M2)) rfl rfl rfl ?_
          refine pl_call (a := [.ref r, .int 4]) (rest := []) rfl rfl rfl (dx_takes4 h4 h8 h9 h5 (hn) (by omega)) (fun v11 M12 q13 => ?_)
          rcases q13 with q13 | q13
          · skip
            obtain ⟨q32_ok, rfl, h14, h15, f16⟩ := q13
            have h18 := (f16.1 b (nin2 (ob_ne h8 h4 (by decide)) (ob_ne h8 h5 (by decide)))).trans h8
            have h19 := (f16.1 da (nin2 (Ne.symm (ob_ar h4 h9)) (Ne.symm (ob_ar h5 h9)))).trans h9
            have hF20 := hF10.tr f16 (by simp)
            show pl _ _ _ (35, [(0, .ref r), (1, .int (nI (by2 f p))), (2, .int (nI i))], [.int 1], M12) _
            refine ps_if (S1 := (40, [(0, .ref r), (1, .int (nI (by2 f p))), (2, .int (nI i))], [], M12)) (S2 := (38, [], [], M12)) rfl rfl rfl (fun c_35 => ?_) (fun c_35 => ?_)
            rotate_left
            · exact absurd (by decide) (of_decide_eq_false c_35)
            refine ps_st (S' := (41, [(0, .ref r), (1, .int (nI (by2 f p))), (2, .int (nI i))], [.ref r], M12)) rfl rfl rfl ?_
            refine ps_get (S' := (44, [(0, .ref r), (1, .int (nI (by2 f p))), (2, .int (nI i))], [.int (nI (by4 f (p1 + 2)))], M12)) rfl h14 rfl rfl ?_
            refine ps_if (S1 := (66, [(0, .ref r)], [], M12)) (S2 := (47, [(0, .ref r), (1, .int (nI (by2 f p))), (2, .int (nI i))], [], M12)) rfl rfl rfl (fun c_44 => ?_) (fun c_44 => ?_)
            · have c_44 : (nI (by4 f (p1 + 2))) < 0 := of_decide_eq_true c_44
              have n_44 : 2147483648 ≤ by4 f (p1 + 2) := (neg_nI (by4_lt _ _)).mp c_44
              refine ps_st (S' := (67, [(0, .ref r)], [.ref r], M12)) rfl rfl rfl ?_
              refine ps_get (S' := (70, [(0, .ref r)], [.ref vd], M12)) rfl h14 rfl rfl ?_
              refine ps_st (S' := (71, [(0, .ref r)], [.int 1, .ref vd], M12)) rfl rfl rfl ?_
              refine ps_st (S' := (72, [(0, .ref r)], [.ref r, .int 1, .ref vd], M12)) rfl rfl rfl ?_
              refine ps_get (S' := (75, [(0, .ref r)], [.int (nI (p1 + 6)), .int 1, .ref vd], M12)) rfl h14 rfl rfl ?_
              refine pl_call (a := [.ref vd, .int 1, .int (nI (p1 + 6))]) (rest := []) rfl rfl rfl (dx_wrong h15) (fun v21 M22 q23 => ?_)
              obtain ⟨rfl, h24, f25⟩ := q23
              have h27 := (f25.1 r (nin1 (ob_ne h14 h15 (by decide)))).trans h14
              have h28 := (f25.1 b (nin1 (ob_ne h18 h15 (by decide)))).trans h18
              have h29 := (f25.1 da (nin1 (Ne.symm (ob_ar h15 h19)))).trans h19
              have hF30 := hF20.tr f25 (by simp)
              show pl _ _ _ (78, [(0, .ref r)], [.int 0], M22) _
              exact ps_ret rfl rfl (Or.inr ⟨(1, p1 + 6), by
                  unfold s_attributes
                  rw [if_neg (by omega), ← hs, show by2 f p - i = (by2 f p - (i + 1)) + 1 by omega]
                  unfold s_atts
                  repeat' split
                  all_goals first | rfl | (exfalso; omega), rfl, h24, hF30⟩)
            · have c_44 : ¬ ((nI (by4 f (p1 + 2))) < 0) := of_decide_eq_false c_44
              have n_44 : ¬ (2147483648 ≤ by4 f (p1 + 2)) := fun h9 => c_44 ((neg_nI (by4_lt _ _)).mpr h9)
              refine ps_st (S' := (48, [(0, .ref r), (1, .int (nI (by2 f p))), (2, .int (nI i))], [.ref r], M12)) rfl rfl rfl ?_
              refine ps_get (S' := (51, [(0, .ref r), (1, .int (nI (by2 f p))), (2, .int (nI i))], [.int (nI (by4 f (p1 + 2)))], M12)) rfl h14 rfl rfl ?_
              refine ps_st (S' := (52, [(0, .ref r), (1, .int (nI (by2 f p))), (2, .int (nI i))], [.ref r, .int (nI (by4 f (p1 + 2)))], M12)) rfl rfl rfl ?_
              refine ps_get (S' := (55, [(0, .ref r), (1, .int (nI (by2 f p))), (2, .int (nI i))], [.ref b, .int (nI (by4 f (p1 + 2)))], M12)) rfl h14 rfl rfl ?_
              refine pl_call (a := [.ref b]) (rest := [.int (nI (by4 f (p1 + 2)))]) rfl rfl rfl (dx_size h18 h19 (hn)) (fun v31 M32 q33 => ?_)
              obtain ⟨rfl, f34⟩ := q33
              have h36 := (f34.1 r (by simp)).trans h14
              have h37 := (f34.1 b (by simp)).trans h18
              have h38 := (f34.1 da (by simp)).trans h19
              have h39 := (f34.1 vd (by simp)).trans h15
              have hF40 := hF20.tr f34 (by simp)
              show pl _ _ _ (58, [(0, .ref r), (1, .int (nI (by2 f p))), (2, .int (nI i))], [.int (sp_size n f ), .int (nI (by4 f (p1 + 2)))], M32) _
              refine ps_st (S' := (59, [(0, .ref r), (1, .int (nI (by2 f p))), (2, .int (nI i))], [.ref r, .int (sp_size n f ), .int (nI (by4 f (p1 + 2)))], M32)) rfl rfl rfl ?_
              refine ps_get (S' := (62, [(0, .ref r), (1, .int (nI (by2 f p))), (2, .int (nI i))], [.int (nI (p1 + 6)), .int (sp_size n f ), .int (nI (by4 f (p1 + 2)))], M32)) rfl h36 rfl rfl ?_
              refine ps_st (S' := (63, [(0, .ref r), (1, .int (nI (by2 f p))), (2, .int (nI i))], [.int ((sp_size n f ) - (nI (p1 + 6))), .int (nI (by4 f (p1 + 2)))], M32)) rfl rfl rfl ?_
              refine ps_if2 (S1 := (79, [(0, .ref r), (1, .int (nI (by2 f p))), (2, .int (nI i))], [], M32)) (S2 := (66, [(0, .ref r)], [], M32)) rfl rfl rfl (fun c_63 => ?_) (fun c_63 => ?_)
              · have c_63 : (nI (by4 f (p1 + 2))) ≤ ((sp_size n f ) - (nI (p1 + 6))) := of_decide_eq_true c_63
                have n_63 : p1 + 6 + by4 f (p1 + 2) ≤ n := (le_szn (x := by4 f (p1 + 2)) (p := p1 + 6) (f := f) (by omega) hn (by omega)).mp c_63
                refine ps_st (S' := (80, [(0, .ref r), (1, .int (nI (by2 f p))), (2, .int (nI i))], [.ref r], M32)) rfl rfl rfl ?_
                refine ps_st (S' := (81, [(0, .ref r), (1, .int (nI (by2 f p))), (2, .int (nI i))], [.ref r, .ref r], M32)) rfl rfl rfl ?_
                refine ps_get (S' := (84, [(0, .ref r), (1, .int (nI (by2 f p))), (2, .int (nI i))], [.int (nI (p1 + 6)), .ref r], M32)) rfl h36 rfl rfl ?_
                refine ps_st (S' := (85, [(0, .ref r), (1, .int (nI (by2 f p))), (2, .int (nI i))], [.ref r, .int (nI (p1 + 6)), .ref r], M32)) rfl rfl rfl ?_
                refine ps_get (S' := (88, [(0, .ref r), (1, .int (nI (by2 f p))), (2, .int (nI i))], [.int (nI (by4 f (p1 + 2))), .int (nI (p1 + 6)), .ref r], M32)) rfl h36 rfl rfl ?_
                refine ps_st (S' := (89, [(0, .ref r), (1, .int (nI (by2 f p))), (2, .int (nI i))], [.int ((nI (p1 + 6)) + (nI (by4 f (p1 + 2)))), .ref r], M32)) rfl rfl rfl ?_
                rw [nI_add1 (p := p1 + 6) (k := by4 f (p1 + 2)) (x := (nI (by4 f (p1 + 2)))) rfl (by omega)]
                show pl _ _ _ (_, [(0, .ref r), (1, .int (nI (by2 f p))), (2, .int (nI i))], [.int (nI (p1 + 6 + by4 f (p1 + 2))), .ref r], M32) _
                refine ps_put (l' := [.ref c, .ref b, .ref vd, .int (nI (p1 + 6 + by4 f (p1 + 2))), .int (nI (by4 f (p1 + 2)))]) rfl h36 rfl rfl (fun M41 h42 f43 z44 => ?_)
                have h45 := (f43 b (ob_ne h37 h36 (by decide))).trans h37
                have h46 := (f43 da (Ne.symm (ob_ar h36 h38))).trans h38
                have h47 := (f43 vd (ob_ne h39 h36 (by decide))).trans h39
                have hF48 := hF40.up (by simp) f43 z44
                show pl _ _ _ (92, [(0, .ref r), (1, .int (nI (by2 f p))), (2, .int (nI i))], [], M41) _
                refine ps_st (S' := (95, [(2, .int ((nI i) + 1)), (0, .ref r), (1, .int (nI (by2 f p)))], [], M41)) rfl rfl rfl ?_
                rw [nI_add1 (p := i) (k := 1) (x := 1) rfl (by omega)]
                show pl _ _ _ (_, [(2, .int (nI (i + 1))), (0, .ref r), (1, .int (nI (by2 f p)))], [], M41) _
                refine ps_st (S' := (17, [(0, .ref r), (1, .int (nI (by2 f p))), (2, .int (nI (i + 1)))], [], M41)) rfl rfl rfl ?_
                exact ih (i + 1) (p1 + 6 + by4 f (p1 + 2)) ((nI (by4 f (p1 + 2)))) M41 h42 h45 h46 h47 hF48 (by omega) (by omega) (by omega) (by
                    rw [← hs, show by2 f p - i = (by2 f p - (i + 1)) + 1 by omega]
                    conv => rhs; unfold s_atts
                    rw [if_neg (by omega), if_neg (by omega), if_neg (by omega)]
                    try (congr 1; omega))
              · have c_63 : ¬ ((nI (by4 f (p1 + 2))) ≤ ((sp_size n f ) - (nI (p1 + 6)))) := of_decide_eq_false c_63
                have n_63 : ¬ (p1 + 6 + by4 f (p1 + 2) ≤ n) := fun h9 => c_63 ((le_szn (x := by4 f (p1 + 2)) (p := p1 + 6) (f := f) (by omega) hn (by omega)).mpr h9)
                refine ps_st (S' := (67, [(0, .ref r)], [.ref r], M32)) rfl rfl rfl ?_
                refine ps_get (S' := (70, [(0, .ref r)], [.ref vd], M32)) rfl h36 rfl rfl ?_
                refine ps_st (S' := (71, [(0, .ref r)], [.int 1, .ref vd], M32)) rfl rfl rfl ?_
                refine ps_st (S' := (72, [(0, .ref r)], [.ref r, .int 1, .ref vd], M32)) rfl rfl rfl ?_
                refine ps_get (S' := (75, [(0, .ref r)], [.int (nI (p1 + 6)), .int 1, .ref vd], M32)) rfl h36 rfl rfl ?_
                refine pl_call (a := [.ref vd, .int 1, .int (nI (p1 + 6))]) (rest := []) rfl rfl rfl (dx_wrong h39) (fun v49 M50 q51 => ?_)
                obtain ⟨rfl, h52, f53⟩ := q51
                have h55 := (f53.1 r (nin1 (ob_ne h36 h39 (by decide)))).trans h36
                have h56 := (f53.1 b (nin1 (ob_ne h37 h39 (by decide)))).trans h37
                have h57 := (f53.1 da (nin1 (Ne.symm (ob_ar h39 h38)))).trans h38
                have hF58 := hF40.tr f53 (by simp)
                show pl _ _ _ (78, [(0, .ref r)], [.int 0], M50) _
                exact ps_ret rfl rfl (Or.inr ⟨(1, p1 + 6), by
                    unfold s_attributes
                    rw [if_neg (by omega), ← hs, show by2 f p - i = (by2 f p - (i + 1)) + 1 by omega]
                    unfold s_atts
                    repeat' split
                    all_goals first | rfl | (exfalso; omega), rfl, h52, hF58⟩)
          · skip
            obtain ⟨q32_no, rfl, h59, h60, f61⟩ := q13
            have h63 := (f61.1 b (nin2 (ob_ne h8 h4 (by decide)) (ob_ne h8 h5 (by decide)))).trans h8
            have h64 := (f61.1 da (nin2 (Ne.symm (ob_ar h4 h9)) (Ne.symm (ob_ar h5 h9)))).trans h9
            have hF65 := hF10.tr f61 (by simp)
            show pl _ _ _ (35, [(0, .ref r), (1, .int (nI (by2 f p))), (2, .int (nI i))], [.int 0], M12) _
            refine ps_if (S1 := (40, [(0, .ref r), (1, .int (nI (by2 f p))), (2, .int (nI i))], [], M12)) (S2 := (38, [], [], M12)) rfl rfl rfl (fun c_35 => ?_) (fun c_35 => ?_)
            · exact absurd (of_decide_eq_true c_35) (by decide)
            refine ps_st (S' := (39, [], [.int 0], M12)) rfl rfl rfl ?_
            exact ps_ret rfl rfl (Or.inr ⟨(1, p1 + 2), by
                unfold s_attributes
                rw [if_neg (by omega), ← hs, show by2 f p - i = (by2 f p - (i + 1)) + 1 by omega]
                unfold s_atts
                repeat' split
                all_goals first | rfl | (exfalso; omega), rfl, h60, hF65⟩)
        · skip
          obtain ⟨q24_no, rfl, h66, h67, f68⟩ := q3
          have h70 := (f68.1 b (nin2 (ob_ne hl_b hl_r (by decide)) (ob_ne hl_b hl_vd (by decide)))).trans hl_b
          have h71 := (f68.1 da (nin2 (Ne.symm (ob_ar hl_r hl_da)) (Ne.symm (ob_ar hl_vd hl_da)))).trans hl_da
          have hF72 := hF1.tr f68 (by simp)
          show pl _ _ _ (27, [(0, .ref r), (1, .int (nI (by2 f p))), (2, .int (nI i))], [.int 0], M2) _
          refine ps_if (S1 := (38, [], [], M2)) (S2 := (30, [(0, .ref r), (1, .int (nI (by2 f p))), (2, .int (nI i))], [], M2)) rfl rfl rfl (fun c_27 => ?_) (fun c_27 => ?_)
          rotate_left
          · exact absurd (by decide) (of_decide_eq_false c_27)
          refine ps_st (S' := (39, [], [.int 0], M2)) rfl rfl rfl ?_
          exact ps_ret rfl rfl (Or.inr ⟨(1, p1), by
              unfold s_attributes
              rw [if_neg (by omega), ← hs, show by2 f p - i = (by2 f p - (i + 1)) + 1 by omega]
              unfold s_atts
              repeat' split
              all_goals first | rfl | (exfalso; omega), rfl, h67, hF72⟩)
  refine ps_st (S' := (1, [(0, .ref r)], [.ref r], M)) rfl rfl rfl ?_
  refine ps_st (S' := (2, [(0, .ref r)], [.int 2, .ref r], M)) rfl rfl rfl ?_
  refine pl_call (a := [.ref r, .int 2]) (rest := []) rfl rfl rfl (dx_takes2 h_r h_b h_da h_vd (hn) (by omega)) (fun v73 M74 q75 => ?_)
  rcases q75 with q75 | q75
  · skip
    obtain ⟨q2_ok, rfl, h76, h77, f78⟩ := q75
    have h80 := (f78.1 b (nin2 (ob_ne h_b h_r (by decide)) (ob_ne h_b h_vd (by decide)))).trans h_b
    have h81 := (f78.1 da (nin2 (Ne.symm (ob_ar h_r h_da)) (Ne.symm (ob_ar h_vd h_da)))).trans h_da
    have hF82 := hF.tr f78 (by simp)
    show pl _ _ _ (5, [(0, .ref r)], [.int 1], M74) _
    refine ps_if (S1 := (10, [(0, .ref r)], [], M74)) (S2 := (8, [(0, .ref r)], [], M74)) rfl rfl rfl (fun c_5 => ?_) (fun c_5 => ?_)
    rotate_left
    · exact absurd (by decide) (of_decide_eq_false c_5)
    refine ps_st (S' := (11, [(0, .ref r)], [.ref r], M74)) rfl rfl rfl ?_
    refine ps_get (S' := (14, [(0, .ref r)], [.int (nI (by2 f p))], M74)) rfl h76 rfl rfl ?_
    refine ps_st (S' := (15, [(1, .int (nI (by2 f p))), (0, .ref r)], [], M74)) rfl rfl rfl ?_
    refine ps_st (S' := (16, [(1, .int (nI (by2 f p))), (0, .ref r)], [.int 0], M74)) rfl rfl rfl ?_
    refine ps_st (S' := (17, [(0, .ref r), (1, .int (nI (by2 f p))), (2, .int 0)], [], M74)) rfl rfl rfl ?_
    exact L17 kf (0) (p + 2) (nI (by2 f p)) M74 h76 h80 h81 h77 hF82 (by omega) (by omega) (by omega) (rfl)
  · skip
    obtain ⟨q2_no, rfl, h83, h84, f85⟩ := q75
    have h87 := (f85.1 b (nin2 (ob_ne h_b h_r (by decide)) (ob_ne h_b h_vd (by decide)))).trans h_b
    have h88 := (f85.1 da (nin2 (Ne.symm (ob_ar h_r h_da)) (Ne.symm (ob_ar h_vd h_da)))).trans h_da
    have hF89 := hF.tr f85 (by simp)
    show pl _ _ _ (5, [(0, .ref r)], [.int 0], M74) _
    refine ps_if (S1 := (10, [(0, .ref r)], [], M74)) (S2 := (8, [(0, .ref r)], [], M74)) rfl rfl rfl (fun c_5 => ?_) (fun c_5 => ?_)
    · exact absurd (of_decide_eq_true c_5) (by decide)
    refine ps_st (S' := (9, [(0, .ref r)], [.int 0], M74)) rfl rfl rfl ?_
    exact ps_ret rfl rfl (Or.inr ⟨(1, p), by unfold s_attributes; rw [if_pos (by omega)], rfl, h84, hF89⟩)
set_option maxHeartbeats 1000000 in
theorem dx_takesClass {g : xe_G} {M : mi_H} {r c b vd da n p q : Nat} {f : Nat → Int32} {it ru wa mi ma fa ic ac aa k1 k2 k3 k4 k5 k6 k7 : Int32} {u6 u7 : Value} (h_r : M.1 r = some (ob 9 [.ref c, .ref b, .ref vd, .int (nI p), .int it])) (h_b : M.1 b = some (ob 1 [.ref da])) (h_da : M.1 da = some (ar .byte n f)) (h_vd : M.1 vd = some (ob 10 [.int ru, .int wa])) (h_c : M.1 c = some (ob 3 [.ref b, .ref q, .int mi, .int ma, .int fa, .int ic, u6, u7, .int ac, .int aa, .int k1, .int k2, .int k3, .int k4, .int k5, .int k6, .int k7])) (hn : n ≤ 65540) (hp : p ≤ n) : pt (mT g) 161 [.ref r] M (fun v M' => (∃ (p' : Nat) (it' : Int32), (s_class f n p = .inr p') ∧ v = some (.int 1) ∧ M'.1 r = some (ob 9 [.ref c, .ref b, .ref vd, .int (nI p'), .int it']) ∧ M'.1 vd = some (ob 10 [.int ru, .int wa]) ∧ M'.1 c = some (ob 3 [.ref b, .ref q, .int mi, .int ma, .int (nI p), .int (nI (by2 f (p + 6))), u6, u7, .int ac, .int aa, .int k1, .int k2, .int k3, .int k4, .int k5, .int k6, .int k7]) ∧ fm [r, vd, c] M M') ∨ (∃ (e : Nat × Nat), (s_class f n p = .inl e) ∧ v = some (.int 0) ∧ M'.1 vd = some (ob 10 [.int (nI e.1), .int (nI e.2)]) ∧ fm [r, vd, c] M M')) := by
  refine pt_in (b := mb_161 g) rfl (fun kf => ?_)
  show pl (mT g) kf (mb_161 g).2 (0, [(0, .ref r)], [], M) _
  have hF : fm [r, vd, c] M M := fm.rf
  have hb2 := by2_lt f (p + 6)
  have L52 : ∀ (kf : Nat) (i p1 : Nat) (it1 : Int32) (M1 : mi_H), (M1.1 r = some (ob 9 [.ref c, .ref b, .ref vd, .int (nI p1), .int it1])) → (M1.1 b = some (ob 1 [.ref da])) → (M1.1 da = some (ar .byte n f)) → (M1.1 vd = some (ob 10 [.int ru, .int wa])) → (M1.1 c = some (ob 3 [.ref b, .ref q, .int mi, .int ma, .int (nI p), .int ic, u6, u7, .int ac, .int aa, .int k1, .int k2, .int k3, .int k4, .int k5, .int k6, .int k7])) → (fm [r, vd, c] M M1) → (i ≤ by2 f (p + 6)) → (p1 ≤ n) → (p + 8 ≤ n) → (s_two n (by2 f (p + 6) - i) p1 = s_two n (by2 f (p + 6)) (p + 8)) → pl (mT g) kf (mb_161 g).2 (52, [(0, .ref r), (1, .int (nI (by2 f (p + 6)))), (2, .int (nI i))], [], M1) (fun v M' => (∃ (p' : Nat) (it' : Int32), (s_class f n p = .inr p') ∧ v = some (.int 1) ∧ M'.1 r = some (ob 9 [.ref c, .ref b, .ref vd, .int (nI p'), .int it']) ∧ M'.1 vd = some (ob 10 [.int ru, .int wa]) ∧ M'.1 c = some (ob 3 [.ref b, .ref q, .int mi, .int ma, .int (nI p), .int (nI (by2 f (p + 6))), u6, u7, .int ac, .int aa, .int k1, .int k2, .int k3, .int k4, .int k5, .int k6, .int k7]) ∧ fm [r, vd, c] M M') ∨ (∃ (e : Nat × Nat), (s_class f n p = .inl e) ∧ v = some (.int 0) ∧ M'.1 vd = some (ob 10 [.int (nI e.1), .int (nI e.2)]) ∧ fm [r, vd, c] M M')) := by
    intro kf
    induction kf with
    | zero => intros; exact pl_0
    | succ kf ih =>
      intro i p1 it1 M1 hl_r hl_b hl_da hl_vd hl_c hF1 hi hp1 hp2 hs
      have hb2 := by2_lt f (p + 6)
      refine ps_st1 (S' := (53, [(0, .ref r), (1, .int (nI (by2 f (p + 6)))), (2, .int (nI i))], [.int (nI i)], M1)) rfl rfl rfl ?_
      refine ps_st (S' := (54, [(0, .ref r), (1, .int (nI (by2 f (p + 6)))), (2, .int (nI i))], [.int (nI (by2 f (p + 6))), .int (nI i)], M1)) rfl rfl rfl ?_
      refine ps_if2 (S1 := (73, [(0, .ref r), (1, .int (nI (by2 f (p + 6)))), (2, .int (nI i))], [], M1)) (S2 := (57, [(0, .ref r), (1, .int (nI (by2 f (p + 6)))), (2, .int (nI i))], [], M1)) rfl rfl rfl (fun c_54 => ?_) (fun c_54 => ?_)
      · have c_54 : (nI (by2 f (p + 6))) ≤ (nI i) := of_decide_eq_true c_54
        have n_54 : by2 f (p + 6) ≤ i := (le_nI (p := by2 f (p + 6)) (n := i) (Nat.lt_trans (by2_lt _ _) (by decide)) (by omega)).mp c_54
        refine ps_st (S' := (74, [(0, .ref r), (1, .int (nI (by2 f (p + 6)))), (2, .int (nI i))], [.ref r], M1)) rfl rfl rfl ?_
        refine ps_get (S' := (77, [(0, .ref r), (1, .int (nI (by2 f (p + 6)))), (2, .int (nI i))], [.ref c], M1)) rfl hl_r rfl rfl ?_
        refine ps_st (S' := (78, [(0, .ref r), (1, .int (nI (by2 f (p + 6)))), (2, .int (nI i))], [.int (nI (by2 f (p + 6))), .ref c], M1)) rfl rfl rfl ?_
        refine ps_put (l' := [.ref b, .ref q, .int mi, .int ma, .int (nI p), .int (nI (by2 f (p + 6))), u6, u7, .int ac, .int aa, .int k1, .int k2, .int k3, .int k4, .int k5, .int k6, .int k7]) rfl hl_c rfl rfl (fun M1 h2 f3 z4 => ?_)
        have h5 := (f3 r (ob_ne hl_r hl_c (by decide))).trans hl_r
        have h6 := (f3 b (ob_ne hl_b hl_c (by decide))).trans hl_b
        have h7 := (f3 da (Ne.symm (ob_ar hl_c hl_da))).trans hl_da
        have h8 := (f3 vd (ob_ne hl_vd hl_c (by decide))).trans hl_vd
        have hF9 := hF1.up (by simp) f3 z4
        show pl _ _ _ (81, [(0, .ref r), (1, .int (nI (by2 f (p + 6)))), (2, .int (nI i))], [], M1) _
        refine ps_st (S' := (82, [(0, .ref r), (1, .int (nI (by2 f (p + 6)))), (2, .int (nI i))], [.int 1], M1)) rfl rfl rfl ?_
        exact ps_ret rfl rfl (Or.inl ⟨p1, it1, by
            unfold s_class
            rw [if_neg (by omega), if_neg (by omega), if_neg (by omega), if_neg (by omega), ← hs, show by2 f (p + 6) - i = 0 by omega]
            rfl, rfl, h5, h8, h2, hF9⟩)
      · have c_54 : ¬ ((nI (by2 f (p + 6))) ≤ (nI i)) := of_decide_eq_false c_54
        have n_54 : ¬ (by2 f (p + 6) ≤ i) := fun h9 => c_54 ((le_nI (p := by2 f (p + 6)) (n := i) (Nat.lt_trans (by2_lt _ _) (by decide)) (by omega)).mpr h9)
        refine ps_st (S' := (58, [(0, .ref r), (1, .int (nI (by2 f (p + 6)))), (2, .int (nI i))], [.ref r], M1)) rfl rfl rfl ?_
        refine ps_st (S' := (59, [(0, .ref r), (1, .int (nI (by2 f (p + 6)))), (2, .int (nI i))], [.int 2, .ref r], M1)) rfl rfl rfl ?_
        refine pl_call (a := [.ref r, .int 2]) (rest := []) rfl rfl rfl (dx_takes2 hl_r hl_b hl_da hl_vd (hn) (by omega)) (fun v10 M11 q12 => ?_)
        rcases q12 with q12 | q12
        · skip
          obtain ⟨q59_ok, rfl, h13, h14, f15⟩ := q12
          have h17 := (f15.1 b (nin2 (ob_ne hl_b hl_r (by decide)) (ob_ne hl_b hl_vd (by decide)))).trans hl_b
          have h18 := (f15.1 da (nin2 (Ne.symm (ob_ar hl_r hl_da)) (Ne.symm (ob_ar hl_vd hl_da)))).trans hl_da
          have h19 := (f15.1 c (nin2 (ob_ne hl_c hl_r (by decide)) (ob_ne hl_c hl_vd (by decide)))).trans hl_c
          have hF20 := hF1.tr f15 (by simp)
          show pl _ _ _ (62, [(0, .ref r), (1, .int (nI (by2 f (p + 6)))), (2, .int (nI i))], [.int 1], M11) _
          refine ps_if (S1 := (67, [(0, .ref r), (1, .int (nI (by2 f (p + 6)))), (2, .int (nI i))], [], M11)) (S2 := (65, [(0, .ref r), (1, .int (nI (by2 f (p + 6)))), (2, .int (nI i))], [], M11)) rfl rfl rfl (fun c_62 => ?_) (fun c_62 => ?_)
          rotate_left
          · exact absurd (by decide) (of_decide_eq_false c_62)
          refine ps_st (S' := (70, [(2, .int ((nI i) + 1)), (0, .ref r), (1, .int (nI (by2 f (p + 6))))], [], M11)) rfl rfl rfl ?_
          rw [nI_add1 (p := i) (k := 1) (x := 1) rfl (by omega)]
          show pl _ _ _ (_, [(2, .int (nI (i + 1))), (0, .ref r), (1, .int (nI (by2 f (p + 6))))], [], M11) _
          refine ps_st (S' := (52, [(0, .ref r), (1, .int (nI (by2 f (p + 6)))), (2, .int (nI (i + 1)))], [], M11)) rfl rfl rfl ?_
          exact ih (i + 1) (p1 + 2) ((nI (by2 f p1))) M11 h13 h17 h18 h14 h19 hF20 (by omega) (by omega) (by omega) (by
              rw [← hs, show by2 f (p + 6) - i = (by2 f (p + 6) - (i + 1)) + 1 by omega]
              conv => rhs; unfold s_two
              rw [if_neg (by omega)]
              try (congr 1; omega))
        · skip
          obtain ⟨q59_no, rfl, h21, h22, f23⟩ := q12
          have h25 := (f23.1 b (nin2 (ob_ne hl_b hl_r (by decide)) (ob_ne hl_b hl_vd (by decide)))).trans hl_b
          have h26 := (f23.1 da (nin2 (Ne.symm (ob_ar hl_r hl_da)) (Ne.symm (ob_ar hl_vd hl_da)))).trans hl_da
          have h27 := (f23.1 c (nin2 (ob_ne hl_c hl_r (by decide)) (ob_ne hl_c hl_vd (by decide)))).trans hl_c
          have hF28 := hF1.tr f23 (by simp)
          show pl _ _ _ (62, [(0, .ref r), (1, .int (nI (by2 f (p + 6)))), (2, .int (nI i))], [.int 0], M11) _
          refine ps_if (S1 := (67, [(0, .ref r), (1, .int (nI (by2 f (p + 6)))), (2, .int (nI i))], [], M11)) (S2 := (65, [(0, .ref r), (1, .int (nI (by2 f (p + 6)))), (2, .int (nI i))], [], M11)) rfl rfl rfl (fun c_62 => ?_) (fun c_62 => ?_)
          · exact absurd (of_decide_eq_true c_62) (by decide)
          refine ps_st (S' := (66, [(0, .ref r), (1, .int (nI (by2 f (p + 6)))), (2, .int (nI i))], [.int 0], M11)) rfl rfl rfl ?_
          exact ps_ret rfl rfl (Or.inr ⟨(1, p1), by
              unfold s_class
              rw [if_neg (by omega), if_neg (by omega), if_neg (by omega), if_neg (by omega), ← hs, show by2 f (p + 6) - i = (by2 f (p + 6) - (i + 1)) + 1 by omega]
              unfold s_two
              rw [if_pos (by omega)], rfl, h22, hF28⟩)
  refine ps_st (S' := (1, [(0, .ref r)], [.ref r], M)) rfl rfl rfl ?_
  refine ps_get (S' := (4, [(0, .ref r)], [.ref c], M)) rfl h_r rfl rfl ?_
  refine ps_st (S' := (5, [(0, .ref r)], [.ref r, .ref c], M)) rfl rfl rfl ?_
  refine ps_get (S' := (8, [(0, .ref r)], [.int (nI p), .ref c], M)) rfl h_r rfl rfl ?_
  refine ps_put (l' := [.ref b, .ref q, .int mi, .int ma, .int (nI p), .int ic, u6, u7, .int ac, .int aa, .int k1, .int k2, .int k3, .int k4, .int k5, .int k6, .int k7]) rfl h_c rfl rfl (fun M29 h30 f31 z32 => ?_)
  have h33 := (f31 r (ob_ne h_r h_c (by decide))).trans h_r
  have h34 := (f31 b (ob_ne h_b h_c (by decide))).trans h_b
  have h35 := (f31 da (Ne.symm (ob_ar h_c h_da))).trans h_da
  have h36 := (f31 vd (ob_ne h_vd h_c (by decide))).trans h_vd
  have hF37 := hF.up (by simp) f31 z32
  show pl _ _ _ (11, [(0, .ref r)], [], M29) _
  refine ps_st (S' := (12, [(0, .ref r)], [.ref r], M29)) rfl rfl rfl ?_
  refine ps_st (S' := (13, [(0, .ref r)], [.int 2, .ref r], M29)) rfl rfl rfl ?_
  refine pl_call (a := [.ref r, .int 2]) (rest := []) rfl rfl rfl (dx_takes2 h33 h34 h35 h36 (hn) (by omega)) (fun v38 M39 q40 => ?_)
  rcases q40 with q40 | q40
  · skip
    obtain ⟨q13_ok, rfl, h41, h42, f43⟩ := q40
    have h45 := (f43.1 b (nin2 (ob_ne h34 h33 (by decide)) (ob_ne h34 h36 (by decide)))).trans h34
    have h46 := (f43.1 da (nin2 (Ne.symm (ob_ar h33 h35)) (Ne.symm (ob_ar h36 h35)))).trans h35
    have h47 := (f43.1 c (nin2 (ob_ne h30 h33 (by decide)) (ob_ne h30 h36 (by decide)))).trans h30
    have hF48 := hF37.tr f43 (by simp)
    show pl _ _ _ (16, [(0, .ref r)], [.int 1], M39) _
    refine ps_if (S1 := (43, [], [], M39)) (S2 := (19, [(0, .ref r)], [], M39)) rfl rfl rfl (fun c_16 => ?_) (fun c_16 => ?_)
    · exact absurd (of_decide_eq_true c_16) (by decide)
    refine ps_st (S' := (20, [(0, .ref r)], [.ref r], M39)) rfl rfl rfl ?_
    refine ps_st (S' := (21, [(0, .ref r)], [.int 2, .ref r], M39)) rfl rfl rfl ?_
    refine pl_call (a := [.ref r, .int 2]) (rest := []) rfl rfl rfl (dx_takes2 h41 h45 h46 h42 (hn) (by omega)) (fun v49 M50 q51 => ?_)
    rcases q51 with q51 | q51
    · skip
      obtain ⟨q21_ok, rfl, h52, h53, f54⟩ := q51
      have h56 := (f54.1 b (nin2 (ob_ne h45 h41 (by decide)) (ob_ne h45 h42 (by decide)))).trans h45
      have h57 := (f54.1 da (nin2 (Ne.symm (ob_ar h41 h46)) (Ne.symm (ob_ar h42 h46)))).trans h46
      have h58 := (f54.1 c (nin2 (ob_ne h47 h41 (by decide)) (ob_ne h47 h42 (by decide)))).trans h47
      have hF59 := hF48.tr f54 (by simp)
      show pl _ _ _ (24, [(0, .ref r)], [.int 1], M50) _
      refine ps_if (S1 := (43, [], [], M50)) (S2 := (27, [(0, .ref r)], [], M50)) rfl rfl rfl (fun c_24 => ?_) (fun c_24 => ?_)
      · exact absurd (of_decide_eq_true c_24) (by decide)
      refine ps_st (S' := (28, [(0, .ref r)], [.ref r], M50)) rfl rfl rfl ?_
      refine ps_st (S' := (29, [(0, .ref r)], [.int 2, .ref r], M50)) rfl rfl rfl ?_
      refine pl_call (a := [.ref r, .int 2]) (rest := []) rfl rfl rfl (dx_takes2 h52 h56 h57 h53 (hn) (by omega)) (fun v60 M61 q62 => ?_)
      rcases q62 with q62 | q62
      · skip
        obtain ⟨q29_ok, rfl, h63, h64, f65⟩ := q62
        have h67 := (f65.1 b (nin2 (ob_ne h56 h52 (by decide)) (ob_ne h56 h53 (by decide)))).trans h56
        have h68 := (f65.1 da (nin2 (Ne.symm (ob_ar h52 h57)) (Ne.symm (ob_ar h53 h57)))).trans h57
        have h69 := (f65.1 c (nin2 (ob_ne h58 h52 (by decide)) (ob_ne h58 h53 (by decide)))).trans h58
        have hF70 := hF59.tr f65 (by simp)
        show pl _ _ _ (32, [(0, .ref r)], [.int 1], M61) _
        refine ps_if (S1 := (43, [], [], M61)) (S2 := (35, [(0, .ref r)], [], M61)) rfl rfl rfl (fun c_32 => ?_) (fun c_32 => ?_)
        · exact absurd (of_decide_eq_true c_32) (by decide)
        refine ps_st (S' := (36, [(0, .ref r)], [.ref r], M61)) rfl rfl rfl ?_
        refine ps_st (S' := (37, [(0, .ref r)], [.int 2, .ref r], M61)) rfl rfl rfl ?_
        refine pl_call (a := [.ref r, .int 2]) (rest := []) rfl rfl rfl (dx_takes2 h63 h67 h68 h64 (hn) (by omega)) (fun v71 M72 q73 => ?_)
        rcases q73 with q73 | q73
        · skip
          obtain ⟨q37_ok, rfl, h74, h75, f76⟩ := q73
          have h78 := (f76.1 b (nin2 (ob_ne h67 h63 (by decide)) (ob_ne h67 h64 (by decide)))).trans h67
          have h79 := (f76.1 da (nin2 (Ne.symm (ob_ar h63 h68)) (Ne.symm (ob_ar h64 h68)))).trans h68
          have h80 := (f76.1 c (nin2 (ob_ne h69 h63 (by decide)) (ob_ne h69 h64 (by decide)))).trans h69
          have hF81 := hF70.tr f76 (by simp)
          show pl _ _ _ (40, [(0, .ref r)], [.int 1], M72) _
          refine ps_if (S1 := (45, [(0, .ref r)], [], M72)) (S2 := (43, [], [], M72)) rfl rfl rfl (fun c_40 => ?_) (fun c_40 => ?_)
          rotate_left
          · exact absurd (by decide) (of_decide_eq_false c_40)
          refine ps_st (S' := (46, [(0, .ref r)], [.ref r], M72)) rfl rfl rfl ?_
          refine ps_get (S' := (49, [(0, .ref r)], [.int (nI (by2 f (p + 6)))], M72)) rfl h74 rfl rfl ?_
          refine ps_st (S' := (50, [(1, .int (nI (by2 f (p + 6)))), (0, .ref r)], [], M72)) rfl rfl rfl ?_
          refine ps_st (S' := (51, [(1, .int (nI (by2 f (p + 6)))), (0, .ref r)], [.int 0], M72)) rfl rfl rfl ?_
          refine ps_st (S' := (52, [(0, .ref r), (1, .int (nI (by2 f (p + 6)))), (2, .int 0)], [], M72)) rfl rfl rfl ?_
          exact L52 kf (0) (p + 8) ((nI (by2 f (p + 6)))) M72 h74 h78 h79 h75 h80 hF81 (by omega) (by omega) (by omega) (rfl)
        · skip
          obtain ⟨q37_no, rfl, h82, h83, f84⟩ := q73
          have h86 := (f84.1 b (nin2 (ob_ne h67 h63 (by decide)) (ob_ne h67 h64 (by decide)))).trans h67
          have h87 := (f84.1 da (nin2 (Ne.symm (ob_ar h63 h68)) (Ne.symm (ob_ar h64 h68)))).trans h68
          have h88 := (f84.1 c (nin2 (ob_ne h69 h63 (by decide)) (ob_ne h69 h64 (by decide)))).trans h69
          have hF89 := hF70.tr f84 (by simp)
          show pl _ _ _ (40, [(0, .ref r)], [.int 0], M72) _
          refine ps_if (S1 := (45, [(0, .ref r)], [], M72)) (S2 := (43, [], [], M72)) rfl rfl rfl (fun c_40 => ?_) (fun c_40 => ?_)
          · exact absurd (of_decide_eq_true c_40) (by decide)
          refine ps_st (S' := (44, [], [.int 0], M72)) rfl rfl rfl ?_
          exact ps_ret rfl rfl (Or.inr ⟨(1, p + 6), by
              unfold s_class
              repeat' split
              all_goals first | rfl | (exfalso; omega), rfl, h83, hF89⟩)
      · skip
        obtain ⟨q29_no, rfl, h90, h91, f92⟩ := q62
        have h94 := (f92.1 b (nin2 (ob_ne h56 h52 (by decide)) (ob_ne h56 h53 (by decide)))).trans h56
        have h95 := (f92.1 da (nin2 (Ne.symm (ob_ar h52 h57)) (Ne.symm (ob_ar h53 h57)))).trans h57
        have h96 := (f92.1 c (nin2 (ob_ne h58 h52 (by decide)) (ob_ne h58 h53 (by decide)))).trans h58
        have hF97 := hF59.tr f92 (by simp)
        show pl _ _ _ (32, [(0, .ref r)], [.int 0], M61) _
        refine ps_if (S1 := (43, [], [], M61)) (S2 := (35, [(0, .ref r)], [], M61)) rfl rfl rfl (fun c_32 => ?_) (fun c_32 => ?_)
        rotate_left
        · exact absurd (by decide) (of_decide_eq_false c_32)
        refine ps_st (S' := (44, [], [.int 0], M61)) rfl rfl rfl ?_
        exact ps_ret rfl rfl (Or.inr ⟨(1, p + 4), by
            unfold s_class
            repeat' split
            all_goals first | rfl | (exfalso; omega), rfl, h91, hF97⟩)
    · skip
      obtain ⟨q21_no, rfl, h98, h99, f100⟩ := q51
      have h102 := (f100.1 b (nin2 (ob_ne h45 h41 (by decide)) (ob_ne h45 h42 (by decide)))).trans h45
      have h103 := (f100.1 da (nin2 (Ne.symm (ob_ar h41 h46)) (Ne.symm (ob_ar h42 h46)))).trans h46
      have h104 := (f100.1 c (nin2 (ob_ne h47 h41 (by decide)) (ob_ne h47 h42 (by decide)))).trans h47
      have hF105 := hF48.tr f100 (by simp)
      show pl _ _ _ (24, [(0, .ref r)], [.int 0], M50) _
      refine ps_if (S1 := (43, [], [], M50)) (S2 := (27, [(0, .ref r)], [], M50)) rfl rfl rfl (fun c_24 => ?_) (fun c_24 => ?_)
      rotate_left
      · exact absurd (by decide) (of_decide_eq_false c_24)
      refine ps_st (S' := (44, [], [.int 0], M50)) rfl rfl rfl ?_
      exact ps_ret rfl rfl (Or.inr ⟨(1, p + 2), by
          unfold s_class
          repeat' split
          all_goals first | rfl | (exfalso; omega), rfl, h99, hF105⟩)
  · skip
    obtain ⟨q13_no, rfl, h106, h107, f108⟩ := q40
    have h110 := (f108.1 b (nin2 (ob_ne h34 h33 (by decide)) (ob_ne h34 h36 (by decide)))).trans h34
    have h111 := (f108.1 da (nin2 (Ne.symm (ob_ar h33 h35)) (Ne.symm (ob_ar h36 h35)))).trans h35
    have h112 := (f108.1 c (nin2 (ob_ne h30 h33 (by decide)) (ob_ne h30 h36 (by decide)))).trans h30
    have hF113 := hF37.tr f108 (by simp)
    show pl _ _ _ (16, [(0, .ref r)], [.int 0], M39) _
    refine ps_if (S1 := (43, [], [], M39)) (S2 := (19, [(0, .ref r)], [], M39)) rfl rfl rfl (fun c_16 => ?_) (fun c_16 => ?_)
    rotate_left
    · exact absurd (by decide) (of_decide_eq_false c_16)
    refine ps_st (S' := (44, [], [.int 0], M39)) rfl rfl rfl ?_
    exact ps_ret rfl rfl (Or.inr ⟨(1, p), by
        unfold s_class
        repeat' split
        all_goals first | rfl | (exfalso; omega), rfl, h107, hF113⟩)
