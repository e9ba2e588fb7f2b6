/-! the reference: questions about a cut code (laid by wip/p2/c78.py) -/
set_option maxHeartbeats 2000000 in
theorem rm_plain {g : xe_G}  {m0 : Nat} {q : Nat → Nat} {z : Nat × Nat} {I : rI} {R : rR} {M : mi_H} {x1 x2 : Int32} {n : Nat} {f : Nat → Int32} {ca cl : Int32}  (hR : RS g m0 q z I R M) (hF : FK n f I R) (hC : CK n ca cl I R) (hI : INS f ca cl x1) (hop : f1 f (ca + x1) = x2) {d : Nat} (hd : 2 ≤ d) : mt (mT g) d 234 [.ref m0, .int x1, .int x2] M (fun v M' => (∃ x : Int32, v = some (.int x)) ∧ M' = M) := by
  obtain ⟨d, rfl⟩ : ∃ e, d = e + 1 := ⟨d - 1, by omega⟩
  refine mt_in (b := mb_234 g) rfl rfl ?_
  show ml (mT g) d (mb_234 g).2 (0, [(0, .ref m0), (1, .int x1), (2, .int x2)], [], M) _
  have hn := hF.1
  obtain ⟨hca, hcl, hcn⟩ := hC.2.2
  have hI2 := hI
  obtain ⟨h0, nn, hn1, hnn, hln, h196, hsw⟩ := hI2
  rw [hop] at hln
  have d1 : (x1 + 1).toInt = x1.toInt + 1 := by have e9 : (1 : Int32).toInt = 1 := rfl; rw [i_add (by omega) (by omega), e9]
  refine ml_blk 2 (S' := (4, [(0, .ref m0), (1, .int x1), (2, .int x2)], [.int 196, .int x2], M)) rfl ?_
  refine ml_if2 (S1 := (15, [(0, .ref m0), (1, .int x1), (2, .int x2)], [], M)) (S2 := (7, [(0, .ref m0), (1, .int x1), (2, .int x2)], [], M)) rfl rfl rfl (fun c_4 => ?_) (fun c_4 => ?_)
  · have c_4 : ¬ x2 = 196 := of_decide_eq_true c_4
    refine ml_blk 2 (S' := (18, [(0, .ref m0), (1, .int x1), (2, .int x2)], [.int 19, .int x2], M)) rfl ?_
    refine ml_if2 (S1 := (24, [(0, .ref m0), (1, .int x1), (2, .int x2)], [], M)) (S2 := (21, [(0, .ref m0), (1, .int x1), (2, .int x2)], [], M)) rfl rfl rfl (fun c_18 => ?_) (fun c_18 => ?_)
    · have c_18 : ¬ x2 = 19 := of_decide_eq_true c_18
      refine ml_blk 2 (S' := (27, [(0, .ref m0), (1, .int x1), (2, .int x2)], [.int 26, .int x2], M)) rfl ?_
      have J_46 : ml (mT g) d (mb_234 g).2 (46, [(2, .int x2)], [], M) (fun v M' => (∃ x : Int32, v = some (.int x)) ∧ M' = M) := by
        refine ml_blk 2 (S' := (49, [(2, .int x2)], [.int 59, .int x2], M)) rfl ?_
        refine ml_if2 (S1 := (68, [(2, .int x2)], [], M)) (S2 := (52, [(2, .int x2)], [], M)) rfl rfl rfl (fun c_49 => ?_) (fun c_49 => ?_)
        · have c_49 : x2 < 59 := of_decide_eq_true c_49
          refine ml_blk 2 (S' := (72, [(2, .int x2)], [.int 200, .int x2], M)) rfl ?_
          refine ml_if2 (S1 := (81, [(2, .int x2)], [], M)) (S2 := (75, [(2, .int x2)], [], M)) rfl rfl rfl (fun c_72 => ?_) (fun c_72 => ?_)
          · have c_72 : ¬ x2 = 200 := of_decide_eq_true c_72
            refine ml_blk 2 (S' := (85, [(2, .int x2)], [.int 201, .int x2], M)) rfl ?_
            refine ml_if2 (S1 := (94, [(2, .int x2)], [], M)) (S2 := (88, [(2, .int x2)], [], M)) rfl rfl rfl (fun c_85 => ?_) (fun c_85 => ?_)
            · have c_85 : ¬ x2 = 201 := of_decide_eq_true c_85
              refine ml_st (S' := (95, [], [.int x2], M)) rfl rfl rfl ?_
              exact ml_ret rfl (rfl) (⟨⟨_, rfl⟩, rfl⟩)
            · have c_85 : ¬ (¬ x2 = 201) := of_decide_eq_false c_85
              refine ml_st (S' := (91, [(2, .int x2)], [.int 168], M)) rfl rfl rfl ?_
              refine ml_st (S' := (95, [], [.int 168], M)) rfl rfl rfl ?_
              exact ml_ret rfl (rfl) (⟨⟨_, rfl⟩, rfl⟩)
          · have c_72 : ¬ (¬ x2 = 200) := of_decide_eq_false c_72
            refine ml_st (S' := (78, [(2, .int x2)], [.int 167], M)) rfl rfl rfl ?_
            refine ml_st (S' := (95, [], [.int 167], M)) rfl rfl rfl ?_
            exact ml_ret rfl (rfl) (⟨⟨_, rfl⟩, rfl⟩)
        · have c_49 : ¬ (x2 < 59) := of_decide_eq_false c_49
          refine ml_blk 2 (S' := (55, [(2, .int x2)], [.int 78, .int x2], M)) rfl ?_
          refine ml_if2 (S1 := (68, [(2, .int x2)], [], M)) (S2 := (58, [(2, .int x2)], [], M)) rfl rfl rfl (fun c_55 => ?_) (fun c_55 => ?_)
          · have c_55 : 78 < x2 := of_decide_eq_true c_55
            refine ml_blk 2 (S' := (72, [(2, .int x2)], [.int 200, .int x2], M)) rfl ?_
            refine ml_if2 (S1 := (81, [(2, .int x2)], [], M)) (S2 := (75, [(2, .int x2)], [], M)) rfl rfl rfl (fun c_72 => ?_) (fun c_72 => ?_)
            · have c_72 : ¬ x2 = 200 := of_decide_eq_true c_72
              refine ml_blk 2 (S' := (85, [(2, .int x2)], [.int 201, .int x2], M)) rfl ?_
              refine ml_if2 (S1 := (94, [(2, .int x2)], [], M)) (S2 := (88, [(2, .int x2)], [], M)) rfl rfl rfl (fun c_85 => ?_) (fun c_85 => ?_)
              · have c_85 : ¬ x2 = 201 := of_decide_eq_true c_85
                refine ml_st (S' := (95, [], [.int x2], M)) rfl rfl rfl ?_
                exact ml_ret rfl (rfl) (⟨⟨_, rfl⟩, rfl⟩)
              · have c_85 : ¬ (¬ x2 = 201) := of_decide_eq_false c_85
                refine ml_st (S' := (91, [(2, .int x2)], [.int 168], M)) rfl rfl rfl ?_
                refine ml_st (S' := (95, [], [.int 168], M)) rfl rfl rfl ?_
                exact ml_ret rfl (rfl) (⟨⟨_, rfl⟩, rfl⟩)
            · have c_72 : ¬ (¬ x2 = 200) := of_decide_eq_false c_72
              refine ml_st (S' := (78, [(2, .int x2)], [.int 167], M)) rfl rfl rfl ?_
              refine ml_st (S' := (95, [], [.int 167], M)) rfl rfl rfl ?_
              exact ml_ret rfl (rfl) (⟨⟨_, rfl⟩, rfl⟩)
          · have c_55 : ¬ (78 < x2) := of_decide_eq_false c_55
            refine ml_blk 3 (S' := (63, [(2, .int x2)], [.int 59, .int x2, .int 54], M)) rfl ?_
            refine ml_blk 2 (S' := (65, [(2, .int x2)], [.int 4, .int (x2 - 59), .int 54], M)) rfl ?_
            refine ml_blk 2 (S' := (67, [(2, .int x2)], [.int (54 + ((x2 - 59) / 4))], M)) rfl ?_
            exact ml_ret rfl (rfl) (⟨⟨_, rfl⟩, rfl⟩)
      refine ml_if2 (S1 := (46, [(2, .int x2)], [], M)) (S2 := (30, [(0, .ref m0), (1, .int x1), (2, .int x2)], [], M)) rfl rfl rfl (fun c_27 => ?_) (fun c_27 => ?_)
      · have c_27 : x2 < 26 := of_decide_eq_true c_27
        exact J_46 
      · have c_27 : ¬ (x2 < 26) := of_decide_eq_false c_27
        refine ml_blk 2 (S' := (33, [(0, .ref m0), (1, .int x1), (2, .int x2)], [.int 45, .int x2], M)) rfl ?_
        refine ml_if2 (S1 := (46, [(2, .int x2)], [], M)) (S2 := (36, [(0, .ref m0), (1, .int x1), (2, .int x2)], [], M)) rfl rfl rfl (fun c_33 => ?_) (fun c_33 => ?_)
        · have c_33 : 45 < x2 := of_decide_eq_true c_33
          exact J_46 
        · have c_33 : ¬ (45 < x2) := of_decide_eq_false c_33
          refine ml_blk 3 (S' := (41, [(0, .ref m0), (1, .int x1), (2, .int x2)], [.int 26, .int x2, .int 21], M)) rfl ?_
          refine ml_blk 2 (S' := (43, [(0, .ref m0), (1, .int x1), (2, .int x2)], [.int 4, .int (x2 - 26), .int 21], M)) rfl ?_
          refine ml_blk 2 (S' := (45, [(0, .ref m0), (1, .int x1), (2, .int x2)], [.int (21 + ((x2 - 26) / 4))], M)) rfl ?_
          exact ml_ret rfl (rfl) (⟨⟨_, rfl⟩, rfl⟩)
    · have c_18 : ¬ (¬ x2 = 19) := of_decide_eq_false c_18
      refine ml_st (S' := (23, [(0, .ref m0), (1, .int x1), (2, .int x2)], [.int 18], M)) rfl rfl rfl ?_
      exact ml_ret rfl (rfl) (⟨⟨_, rfl⟩, rfl⟩)
  · have c_4 : ¬ (¬ x2 = 196) := of_decide_eq_false c_4
    have h4 : (4 : Int) ≤ nn := iln 4 hln 196 196 (by rw [show _ = (196 : Int32) from Decidable.not_not.mp c_4]; decide) (by rw [show _ = (196 : Int32) from Decidable.not_not.mp c_4]; decide) mlk_4_196_196
    refine ml_blk 3 (S' := (10, [(0, .ref m0), (1, .int x1), (2, .int x2)], [.int 1, .int x1, .ref m0], M)) rfl ?_
    refine ml_st (S' := (11, [(0, .ref m0), (1, .int x1), (2, .int x2)], [.int (x1 + 1), .ref m0], M)) rfl rfl rfl ?_
    refine ml_call (a := [.ref m0, .int (x1 + 1)]) (rest := []) rfl (hR.okc rfl rfl rfl) rfl rfl (rm_b1 hR hF hC (by omega) (by omega) (by omega)) (fun v11 M12 h13 => ?_)
    obtain ⟨rfl, h13⟩ := h13
    rw [h13]
    show ml _ _ _ (14, [(0, .ref m0), (1, .int x1), (2, .int x2)], [.int (f1 f (ca + (x1 + 1)))], M) _
    exact ml_ret rfl (rfl) (⟨⟨_, rfl⟩, rfl⟩)
set_option maxHeartbeats 2000000 in
theorem rm_first {g : xe_G}  {m0 : Nat} {q : Nat → Nat} {z : Nat × Nat} {I : rI} {R : rR} {M : mi_H} {x1 x2 : Int32} {n : Nat} {f : Nat → Int32} {ca cl : Int32}  (hR : RS g m0 q z I R M) (hF : FK n f I R) (hC : CK n ca cl I R) (hI : INS f ca cl x1) (hop : f1 f (ca + x1) = x2) (hW : KB 81 cl.toInt.toNat R) (hA : AIM f ca cl x1) {d : Nat} (hd : 5 ≤ d) : mt (mT g) d 208 [.ref m0, .int x1, .int x2] M (fun v M' => (∃ x : Int32, v = some (.int x)) ∧ M' = M) := by
  obtain ⟨d, rfl⟩ : ∃ e, d = e + 1 := ⟨d - 1, by omega⟩
  refine mt_in (b := mb_208 g) rfl rfl ?_
  show ml (mT g) d (mb_208 g).2 (0, [(0, .ref m0), (1, .int x1), (2, .int x2)], [], M) _
  have hn := hF.1
  obtain ⟨hca, hcl, hcn⟩ := hC.2.2
  have hI2 := hI
  obtain ⟨h0, nn, hn1, hnn, hln, h196, hsw⟩ := hI2
  rw [hop] at hln
  have d1 : (x1 + 1).toInt = x1.toInt + 1 := by have e9 : (1 : Int32).toInt = 1 := rfl; rw [i_add (by omega) (by omega), e9]
  have d2 : (x1 + 2).toInt = x1.toInt + 2 := by have e9 : (2 : Int32).toInt = 2 := rfl; rw [i_add (by omega) (by omega), e9]
  have hp := pd_b h0 (by omega)
  have p4 : ((pd x1) + 4).toInt = (pd x1).toInt + 4 := by have e9 : (4 : Int32).toInt = 4 := rfl; rw [i_add (by omega) (by omega), e9]
  refine ml_blk 2 (S' := (4, [(0, .ref m0), (1, .int x1), (2, .int x2)], [.int 196, .int x2], M)) rfl ?_
  refine ml_if2 (S1 := (15, [(0, .ref m0), (1, .int x1), (2, .int x2)], [], M)) (S2 := (7, [(0, .ref m0), (1, .int x1), (2, .int x2)], [], M)) rfl rfl rfl (fun c_4 => ?_) (fun c_4 => ?_)
  · have c_4 : ¬ x2 = 196 := of_decide_eq_true c_4
    refine ml_blk 2 (S' := (18, [(0, .ref m0), (1, .int x1), (2, .int x2)], [.int 26, .int x2], M)) rfl ?_
    have J_34 : ml (mT g) d (mb_208 g).2 (34, [(0, .ref m0), (1, .int x1), (2, .int x2)], [], M) (fun v M' => (∃ x : Int32, v = some (.int x)) ∧ M' = M) := by
      refine ml_blk 2 (S' := (37, [(0, .ref m0), (1, .int x1), (2, .int x2)], [.int 59, .int x2], M)) rfl ?_
      have J_53 : ml (mT g) d (mb_208 g).2 (53, [(0, .ref m0), (1, .int x1), (2, .int x2)], [], M) (fun v M' => (∃ x : Int32, v = some (.int x)) ∧ M' = M) := by
        refine ml_blk 2 (S' := (56, [(0, .ref m0), (1, .int x1), (2, .int x2)], [.int 16, .int x2], M)) rfl ?_
        refine ml_if2 (S1 := (68, [(0, .ref m0), (1, .int x1), (2, .int x2)], [], M)) (S2 := (59, [(0, .ref m0), (1, .int x1), (2, .int x2)], [], M)) rfl rfl rfl (fun c_56 => ?_) (fun c_56 => ?_)
        · have c_56 : ¬ x2 = 16 := of_decide_eq_true c_56
          refine ml_blk 2 (S' := (71, [(0, .ref m0), (1, .int x1), (2, .int x2)], [.int 17, .int x2], M)) rfl ?_
          refine ml_if2 (S1 := (82, [(0, .ref m0), (1, .int x1), (2, .int x2)], [], M)) (S2 := (74, [(0, .ref m0), (1, .int x1), (2, .int x2)], [], M)) rfl rfl rfl (fun c_71 => ?_) (fun c_71 => ?_)
          · have c_71 : ¬ x2 = 17 := of_decide_eq_true c_71
            refine ml_blk 2 (S' := (85, [(0, .ref m0), (1, .int x1), (2, .int x2)], [.int 18, .int x2], M)) rfl ?_
            have J_133 : ((2 : Int) ≤ nn) → ml (mT g) d (mb_208 g).2 (133, [(0, .ref m0), (1, .int x1)], [], M) (fun v M' => (∃ x : Int32, v = some (.int x)) ∧ M' = M) := by
              intro hj_133
              refine ml_blk 3 (S' := (136, [(0, .ref m0), (1, .int x1)], [.int 1, .int x1, .ref m0], M)) rfl ?_
              refine ml_st (S' := (137, [(0, .ref m0), (1, .int x1)], [.int (x1 + 1), .ref m0], M)) rfl rfl rfl ?_
              refine ml_call (a := [.ref m0, .int (x1 + 1)]) (rest := []) rfl (hR.okc rfl rfl rfl) rfl rfl (rm_b1 hR hF hC (by omega) (by omega) (by omega)) (fun v11 M12 h13 => ?_)
              obtain ⟨rfl, h13⟩ := h13
              rw [h13]
              show ml _ _ _ (140, [(0, .ref m0), (1, .int x1)], [.int (f1 f (ca + (x1 + 1)))], M) _
              exact ml_ret rfl (rfl) (⟨⟨_, rfl⟩, rfl⟩)
            refine ml_if2 (S1 := (133, [(0, .ref m0), (1, .int x1)], [], M)) (S2 := (88, [(0, .ref m0), (1, .int x1), (2, .int x2)], [], M)) rfl rfl rfl (fun c_85 => ?_) (fun c_85 => ?_)
            · have c_85 : x2 = 18 := of_decide_eq_true c_85
              exact J_133  (iln 2 hln 18 18 (by rw [show _ = (18 : Int32) from c_85]; decide) (by rw [show _ = (18 : Int32) from c_85]; decide) mlk_2_18_18)
            · have c_85 : ¬ (x2 = 18) := of_decide_eq_false c_85
              refine ml_blk 2 (S' := (91, [(0, .ref m0), (1, .int x1), (2, .int x2)], [.int 21, .int x2], M)) rfl ?_
              have J_100 : ml (mT g) d (mb_208 g).2 (100, [(0, .ref m0), (1, .int x1), (2, .int x2)], [], M) (fun v M' => (∃ x : Int32, v = some (.int x)) ∧ M' = M) := by
                refine ml_blk 2 (S' := (103, [(0, .ref m0), (1, .int x1), (2, .int x2)], [.int 54, .int x2], M)) rfl ?_
                have J_112 : ml (mT g) d (mb_208 g).2 (112, [(0, .ref m0), (1, .int x1), (2, .int x2)], [], M) (fun v M' => (∃ x : Int32, v = some (.int x)) ∧ M' = M) := by
                  refine ml_blk 2 (S' := (116, [(0, .ref m0), (1, .int x1), (2, .int x2)], [.int 132, .int x2], M)) rfl ?_
                  refine ml_if2 (S1 := (133, [(0, .ref m0), (1, .int x1)], [], M)) (S2 := (119, [(0, .ref m0), (1, .int x1), (2, .int x2)], [], M)) rfl rfl rfl (fun c_116 => ?_) (fun c_116 => ?_)
                  · have c_116 : x2 = 132 := of_decide_eq_true c_116
                    exact J_133  (iln 2 hln 132 132 (by rw [show _ = (132 : Int32) from c_116]; decide) (by rw [show _ = (132 : Int32) from c_116]; decide) mlk_2_132_132)
                  · have c_116 : ¬ (x2 = 132) := of_decide_eq_false c_116
                    refine ml_blk 2 (S' := (123, [(0, .ref m0), (1, .int x1), (2, .int x2)], [.int 169, .int x2], M)) rfl ?_
                    refine ml_if2 (S1 := (133, [(0, .ref m0), (1, .int x1)], [], M)) (S2 := (126, [(0, .ref m0), (1, .int x1), (2, .int x2)], [], M)) rfl rfl rfl (fun c_123 => ?_) (fun c_123 => ?_)
                    · have c_123 : x2 = 169 := of_decide_eq_true c_123
                      exact J_133  (iln 2 hln 169 169 (by rw [show _ = (169 : Int32) from c_123]; decide) (by rw [show _ = (169 : Int32) from c_123]; decide) mlk_2_169_169)
                    · have c_123 : ¬ (x2 = 169) := of_decide_eq_false c_123
                      refine ml_blk 2 (S' := (130, [(0, .ref m0), (1, .int x1), (2, .int x2)], [.int 188, .int x2], M)) rfl ?_
                      refine ml_if2 (S1 := (141, [(0, .ref m0), (1, .int x1), (2, .int x2)], [], M)) (S2 := (133, [(0, .ref m0), (1, .int x1)], [], M)) rfl rfl rfl (fun c_130 => ?_) (fun c_130 => ?_)
                      · have c_130 : ¬ x2 = 188 := of_decide_eq_true c_130
                        refine ml_blk 2 (S' := (145, [(0, .ref m0), (1, .int x1), (2, .int x2)], [.int 153, .int x2], M)) rfl ?_
                        have J_169 : BRO x2 → ml (mT g) d (mb_208 g).2 (169, [(0, .ref m0), (1, .int x1)], [], M) (fun v M' => (∃ x : Int32, v = some (.int x)) ∧ M' = M) := by
                          intro hj_169
                          have h3 : (3 : Int) ≤ nn := by rcases hj_169 with h | h | h; exact iln 3 hln 153 168 h.1 h.2 mlk_3_153_168; exact iln 3 hln 198 198 (by rw [show _ = (198 : Int32) from h]; decide) (by rw [show _ = (198 : Int32) from h]; decide) mlk_3_198_198; exact iln 3 hln 199 199 (by rw [show _ = (199 : Int32) from h]; decide) (by rw [show _ = (199 : Int32) from h]; decide) mlk_3_199_199
                          refine ml_st (S' := (170, [(0, .ref m0), (1, .int x1)], [.ref m0], M)) rfl rfl rfl ?_
                          refine rg_ref (S' := (173, [(0, .ref m0), (1, .int x1)], [.ref (q 81)], M)) rfl hR rfl rfl ?_
                          refine ml_blk 3 (S' := (176, [(0, .ref m0), (1, .int x1)], [.int x1, .ref m0, .int x1, .ref (q 81)], M)) rfl ?_
                          refine ml_blk 2 (S' := (178, [(0, .ref m0), (1, .int x1)], [.int (x1 + 1), .ref m0, .int x1, .ref (q 81)], M)) rfl ?_
                          refine ml_call (a := [.ref m0, .int (x1 + 1)]) (rest := [.int x1, .ref (q 81)]) rfl (hR.okc rfl rfl rfl) rfl rfl (rm_s2 hR hF hC (by omega) (by omega) (by omega)) (fun v14 M15 h16 => ?_)
                          obtain ⟨rfl, h16⟩ := h16
                          rw [h16]
                          show ml _ _ _ (181, [(0, .ref m0), (1, .int x1)], [.int (S2 f ca (x1 + 1)), .int x1, .ref (q 81)], M) _
                          refine ml_st (S' := (182, [(0, .ref m0), (1, .int x1)], [.int (x1 + (S2 f ca (x1 + 1))), .ref (q 81)], M)) rfl rfl rfl ?_
                          have hq := hA.1 (by rw [hop]; exact hj_169)
                          obtain ⟨v9, hv9⟩ := hW (x1 + S2 f ca (x1 + 1)).toNatClampNeg (by show (x1 + S2 f ca (x1 + 1)).toInt.toNat < _; omega)
                          refine ra_ld (k := 81) (S' := (183, [(0, .ref m0), (1, .int x1)], [.int v9], M)) rfl hR rfl (vin_lt hq.1 (by omega)) (hv9) rfl ?_
                          exact ml_ret rfl (rfl) (⟨⟨_, rfl⟩, rfl⟩)
                        have J_155 : ml (mT g) d (mb_208 g).2 (155, [(0, .ref m0), (1, .int x1), (2, .int x2)], [], M) (fun v M' => (∃ x : Int32, v = some (.int x)) ∧ M' = M) := by
                          refine ml_blk 2 (S' := (159, [(0, .ref m0), (1, .int x1), (2, .int x2)], [.int 198, .int x2], M)) rfl ?_
                          refine ml_if2 (S1 := (169, [(0, .ref m0), (1, .int x1)], [], M)) (S2 := (162, [(0, .ref m0), (1, .int x1), (2, .int x2)], [], M)) rfl rfl rfl (fun c_159 => ?_) (fun c_159 => ?_)
                          · have c_159 : x2 = 198 := of_decide_eq_true c_159
                            exact J_169  (Or.inr (Or.inl c_159))
                          · have c_159 : ¬ (x2 = 198) := of_decide_eq_false c_159
                            refine ml_blk 2 (S' := (166, [(0, .ref m0), (1, .int x1), (2, .int x2)], [.int 199, .int x2], M)) rfl ?_
                            refine ml_if2 (S1 := (184, [(0, .ref m0), (1, .int x1), (2, .int x2)], [], M)) (S2 := (169, [(0, .ref m0), (1, .int x1)], [], M)) rfl rfl rfl (fun c_166 => ?_) (fun c_166 => ?_)
                            · have c_166 : ¬ x2 = 199 := of_decide_eq_true c_166
                              refine ml_blk 2 (S' := (188, [(0, .ref m0), (1, .int x1), (2, .int x2)], [.int 200, .int x2], M)) rfl ?_
                              have J_198 : (x2 = 200 ∨ x2 = 201) → ml (mT g) d (mb_208 g).2 (198, [(0, .ref m0), (1, .int x1)], [], M) (fun v M' => (∃ x : Int32, v = some (.int x)) ∧ M' = M) := by
                                intro hj_198
                                have h5 : (5 : Int) ≤ nn := by rcases hj_198 with h | h; exact iln 5 hln 200 200 (by rw [show _ = (200 : Int32) from h]; decide) (by rw [show _ = (200 : Int32) from h]; decide) mlk_5_200_200; exact iln 5 hln 201 201 (by rw [show _ = (201 : Int32) from h]; decide) (by rw [show _ = (201 : Int32) from h]; decide) mlk_5_201_201
                                refine ml_st (S' := (199, [(0, .ref m0), (1, .int x1)], [.ref m0], M)) rfl rfl rfl ?_
                                refine rg_ref (S' := (202, [(0, .ref m0), (1, .int x1)], [.ref (q 81)], M)) rfl hR rfl rfl ?_
                                refine ml_blk 3 (S' := (205, [(0, .ref m0), (1, .int x1)], [.int x1, .ref m0, .int x1, .ref (q 81)], M)) rfl ?_
                                refine ml_blk 2 (S' := (207, [(0, .ref m0), (1, .int x1)], [.int (x1 + 1), .ref m0, .int x1, .ref (q 81)], M)) rfl ?_
                                refine ml_call (a := [.ref m0, .int (x1 + 1)]) (rest := [.int x1, .ref (q 81)]) rfl (hR.okc rfl rfl rfl) rfl rfl (rm_b4 hR hF hC (by omega) (by omega) (by omega)) (fun v17 M18 h19 => ?_)
                                obtain ⟨rfl, h19⟩ := h19
                                rw [h19]
                                show ml _ _ _ (210, [(0, .ref m0), (1, .int x1)], [.int (B4 f ca (x1 + 1)), .int x1, .ref (q 81)], M) _
                                refine ml_st (S' := (211, [(0, .ref m0), (1, .int x1)], [.int (x1 + (B4 f ca (x1 + 1))), .ref (q 81)], M)) rfl rfl rfl ?_
                                have hq := hA.2.1 (by rw [hop]; exact hj_198)
                                obtain ⟨v9, hv9⟩ := hW (x1 + B4 f ca (x1 + 1)).toNatClampNeg (by show (x1 + B4 f ca (x1 + 1)).toInt.toNat < _; omega)
                                refine ra_ld (k := 81) (S' := (212, [(0, .ref m0), (1, .int x1)], [.int v9], M)) rfl hR rfl (vin_lt hq.1 (by omega)) (hv9) rfl ?_
                                exact ml_ret rfl (rfl) (⟨⟨_, rfl⟩, rfl⟩)
                              refine ml_if2 (S1 := (198, [(0, .ref m0), (1, .int x1)], [], M)) (S2 := (191, [(0, .ref m0), (1, .int x1), (2, .int x2)], [], M)) rfl rfl rfl (fun c_188 => ?_) (fun c_188 => ?_)
                              · have c_188 : x2 = 200 := of_decide_eq_true c_188
                                exact J_198  (Or.inl c_188)
                              · have c_188 : ¬ (x2 = 200) := of_decide_eq_false c_188
                                refine ml_blk 2 (S' := (195, [(0, .ref m0), (1, .int x1), (2, .int x2)], [.int 201, .int x2], M)) rfl ?_
                                refine ml_if2 (S1 := (213, [(0, .ref m0), (1, .int x1), (2, .int x2)], [], M)) (S2 := (198, [(0, .ref m0), (1, .int x1)], [], M)) rfl rfl rfl (fun c_195 => ?_) (fun c_195 => ?_)
                                · have c_195 : ¬ x2 = 201 := of_decide_eq_true c_195
                                  refine ml_blk 2 (S' := (217, [(0, .ref m0), (1, .int x1), (2, .int x2)], [.int 170, .int x2], M)) rfl ?_
                                  have J_227 : (x2 = 170 ∨ x2 = 171) → ml (mT g) d (mb_208 g).2 (227, [(0, .ref m0), (1, .int x1)], [], M) (fun v M' => (∃ x : Int32, v = some (.int x)) ∧ M' = M) := by
                                    intro hj_227
                                    have ho : f1 f (ca + x1) = 170 ∨ f1 f (ca + x1) = 171 := by rw [hop]; exact hj_227
                                    have h8 := (hI.sw ho).p8 ho
                                    refine ml_blk 2 (S' := (229, [(0, .ref m0), (1, .int x1)], [.int x1, .ref m0], M)) rfl ?_
                                    refine ml_call (a := [.int x1]) (rest := [.ref m0]) rfl (rfl) rfl rfl (rm_pad hR (by omega)) (fun v20 M21 h22 => ?_)
                                    obtain ⟨rfl, h22⟩ := h22
                                    rw [h22]
                                    show ml _ _ _ (232, [(0, .ref m0), (1, .int x1)], [.int (pd x1), .ref m0], M) _
                                    refine ml_blk 2 (S' := (234, [(0, .ref m0), (1, .int x1)], [.int ((pd x1) + 4), .ref m0], M)) rfl ?_
                                    refine ml_call (a := [.ref m0, .int ((pd x1) + 4)]) (rest := []) rfl (hR.okc rfl rfl rfl) rfl rfl (rm_b4 hR hF hC (by omega) (by omega) (by omega)) (fun v23 M24 h25 => ?_)
                                    obtain ⟨rfl, h25⟩ := h25
                                    rw [h25]
                                    show ml _ _ _ (237, [(0, .ref m0), (1, .int x1)], [.int (B4 f ca ((pd x1) + 4))], M) _
                                    exact ml_ret rfl (rfl) (⟨⟨_, rfl⟩, rfl⟩)
                                  refine ml_if2 (S1 := (227, [(0, .ref m0), (1, .int x1)], [], M)) (S2 := (220, [(0, .ref m0), (1, .int x1), (2, .int x2)], [], M)) rfl rfl rfl (fun c_217 => ?_) (fun c_217 => ?_)
                                  · have c_217 : x2 = 170 := of_decide_eq_true c_217
                                    exact J_227  (Or.inl c_217)
                                  · have c_217 : ¬ (x2 = 170) := of_decide_eq_false c_217
                                    refine ml_blk 2 (S' := (224, [(0, .ref m0), (1, .int x1), (2, .int x2)], [.int 171, .int x2], M)) rfl ?_
                                    refine ml_if2 (S1 := (238, [(0, .ref m0), (1, .int x1), (2, .int x2)], [], M)) (S2 := (227, [(0, .ref m0), (1, .int x1)], [], M)) rfl rfl rfl (fun c_224 => ?_) (fun c_224 => ?_)
                                    · have c_224 : ¬ x2 = 171 := of_decide_eq_true c_224
                                      refine ml_blk 2 (S' := (241, [(0, .ref m0), (1, .int x1), (2, .int x2)], [.int 19, .int x2], M)) rfl ?_
                                      have J_292 : ((3 : Int) ≤ nn) → ml (mT g) d (mb_208 g).2 (292, [(0, .ref m0), (1, .int x1)], [], M) (fun v M' => (∃ x : Int32, v = some (.int x)) ∧ M' = M) := by
                                        intro hj_292
                                        refine ml_blk 3 (S' := (295, [(0, .ref m0), (1, .int x1)], [.int 1, .int x1, .ref m0], M)) rfl ?_
                                        refine ml_st (S' := (296, [(0, .ref m0), (1, .int x1)], [.int (x1 + 1), .ref m0], M)) rfl rfl rfl ?_
                                        refine ml_call (a := [.ref m0, .int (x1 + 1)]) (rest := []) rfl (hR.okc rfl rfl rfl) rfl rfl (rm_b2 hR hF hC (by omega) (by omega) (by omega)) (fun v26 M27 h28 => ?_)
                                        obtain ⟨rfl, h28⟩ := h28
                                        rw [h28]
                                        show ml _ _ _ (299, [(0, .ref m0), (1, .int x1)], [.int (f2 f (ca + (x1 + 1)))], M) _
                                        exact ml_ret rfl (rfl) (⟨⟨_, rfl⟩, rfl⟩)
                                      refine ml_if2 (S1 := (292, [(0, .ref m0), (1, .int x1)], [], M)) (S2 := (244, [(0, .ref m0), (1, .int x1), (2, .int x2)], [], M)) rfl rfl rfl (fun c_241 => ?_) (fun c_241 => ?_)
                                      · have c_241 : x2 = 19 := of_decide_eq_true c_241
                                        exact J_292  (iln 3 hln 19 19 (by rw [show _ = (19 : Int32) from c_241]; decide) (by rw [show _ = (19 : Int32) from c_241]; decide) mlk_3_19_19)
                                      · have c_241 : ¬ (x2 = 19) := of_decide_eq_false c_241
                                        refine ml_blk 2 (S' := (247, [(0, .ref m0), (1, .int x1), (2, .int x2)], [.int 20, .int x2], M)) rfl ?_
                                        refine ml_if2 (S1 := (292, [(0, .ref m0), (1, .int x1)], [], M)) (S2 := (250, [(0, .ref m0), (1, .int x1), (2, .int x2)], [], M)) rfl rfl rfl (fun c_247 => ?_) (fun c_247 => ?_)
                                        · have c_247 : x2 = 20 := of_decide_eq_true c_247
                                          exact J_292  (iln 3 hln 20 20 (by rw [show _ = (20 : Int32) from c_247]; decide) (by rw [show _ = (20 : Int32) from c_247]; decide) mlk_3_20_20)
                                        · have c_247 : ¬ (x2 = 20) := of_decide_eq_false c_247
                                          refine ml_blk 2 (S' := (254, [(0, .ref m0), (1, .int x1), (2, .int x2)], [.int 178, .int x2], M)) rfl ?_
                                          have J_264 : ml (mT g) d (mb_208 g).2 (264, [(0, .ref m0), (1, .int x1), (2, .int x2)], [], M) (fun v M' => (∃ x : Int32, v = some (.int x)) ∧ M' = M) := by
                                            refine ml_blk 2 (S' := (268, [(0, .ref m0), (1, .int x1), (2, .int x2)], [.int 189, .int x2], M)) rfl ?_
                                            refine ml_if2 (S1 := (292, [(0, .ref m0), (1, .int x1)], [], M)) (S2 := (271, [(0, .ref m0), (1, .int x1), (2, .int x2)], [], M)) rfl rfl rfl (fun c_268 => ?_) (fun c_268 => ?_)
                                            · have c_268 : x2 = 189 := of_decide_eq_true c_268
                                              exact J_292  (iln 3 hln 189 189 (by rw [show _ = (189 : Int32) from c_268]; decide) (by rw [show _ = (189 : Int32) from c_268]; decide) mlk_3_189_189)
                                            · have c_268 : ¬ (x2 = 189) := of_decide_eq_false c_268
                                              refine ml_blk 2 (S' := (275, [(0, .ref m0), (1, .int x1), (2, .int x2)], [.int 192, .int x2], M)) rfl ?_
                                              refine ml_if2 (S1 := (292, [(0, .ref m0), (1, .int x1)], [], M)) (S2 := (278, [(0, .ref m0), (1, .int x1), (2, .int x2)], [], M)) rfl rfl rfl (fun c_275 => ?_) (fun c_275 => ?_)
                                              · have c_275 : x2 = 192 := of_decide_eq_true c_275
                                                exact J_292  (iln 3 hln 192 192 (by rw [show _ = (192 : Int32) from c_275]; decide) (by rw [show _ = (192 : Int32) from c_275]; decide) mlk_3_192_192)
                                              · have c_275 : ¬ (x2 = 192) := of_decide_eq_false c_275
                                                refine ml_blk 2 (S' := (282, [(0, .ref m0), (1, .int x1), (2, .int x2)], [.int 193, .int x2], M)) rfl ?_
                                                refine ml_if2 (S1 := (292, [(0, .ref m0), (1, .int x1)], [], M)) (S2 := (285, [(0, .ref m0), (1, .int x1), (2, .int x2)], [], M)) rfl rfl rfl (fun c_282 => ?_) (fun c_282 => ?_)
                                                · have c_282 : x2 = 193 := of_decide_eq_true c_282
                                                  exact J_292  (iln 3 hln 193 193 (by rw [show _ = (193 : Int32) from c_282]; decide) (by rw [show _ = (193 : Int32) from c_282]; decide) mlk_3_193_193)
                                                · have c_282 : ¬ (x2 = 193) := of_decide_eq_false c_282
                                                  refine ml_blk 2 (S' := (289, [(0, .ref m0), (1, .int x1), (2, .int x2)], [.int 197, .int x2], M)) rfl ?_
                                                  refine ml_if2 (S1 := (300, [(0, .ref m0), (1, .int x1), (2, .int x2)], [], M)) (S2 := (292, [(0, .ref m0), (1, .int x1)], [], M)) rfl rfl rfl (fun c_289 => ?_) (fun c_289 => ?_)
                                                  · have c_289 : ¬ x2 = 197 := of_decide_eq_true c_289
                                                    refine ml_st (S' := (301, [(0, .ref m0), (1, .int x1), (2, .int x2)], [.int 0], M)) rfl rfl rfl ?_
                                                    exact ml_ret rfl (rfl) (⟨⟨_, rfl⟩, rfl⟩)
                                                  · have c_289 : ¬ (¬ x2 = 197) := of_decide_eq_false c_289
                                                    exact J_292  (Int.le_trans (by decide) (iln 4 hln 197 197 (by rw [show _ = (197 : Int32) from Decidable.not_not.mp c_289]; decide) (by rw [show _ = (197 : Int32) from Decidable.not_not.mp c_289]; decide) mlk_4_197_197))
                                          refine ml_if2 (S1 := (264, [(0, .ref m0), (1, .int x1), (2, .int x2)], [], M)) (S2 := (257, [(0, .ref m0), (1, .int x1), (2, .int x2)], [], M)) rfl rfl rfl (fun c_254 => ?_) (fun c_254 => ?_)
                                          · have c_254 : x2 < 178 := of_decide_eq_true c_254
                                            exact J_264 
                                          · have c_254 : ¬ (x2 < 178) := of_decide_eq_false c_254
                                            refine ml_blk 2 (S' := (261, [(0, .ref m0), (1, .int x1), (2, .int x2)], [.int 187, .int x2], M)) rfl ?_
                                            refine ml_if2 (S1 := (292, [(0, .ref m0), (1, .int x1)], [], M)) (S2 := (264, [(0, .ref m0), (1, .int x1), (2, .int x2)], [], M)) rfl rfl rfl (fun c_261 => ?_) (fun c_261 => ?_)
                                            · have c_261 : x2 ≤ 187 := of_decide_eq_true c_261
                                              exact J_292  (iln 3 hln 178 187 (by have := i_nlt c_254; have : (178 : Int32).toInt = 178 := rfl; omega) (by have := i_le c_261; have : (187 : Int32).toInt = 187 := rfl; omega) mlk_3_178_187)
                                            · have c_261 : ¬ (x2 ≤ 187) := of_decide_eq_false c_261
                                              exact J_264 
                                    · have c_224 : ¬ (¬ x2 = 171) := of_decide_eq_false c_224
                                      exact J_227  (Or.inr (Decidable.not_not.mp c_224))
                                · have c_195 : ¬ (¬ x2 = 201) := of_decide_eq_false c_195
                                  exact J_198  (Or.inr (Decidable.not_not.mp c_195))
                            · have c_166 : ¬ (¬ x2 = 199) := of_decide_eq_false c_166
                              exact J_169  (Or.inr (Or.inr (Decidable.not_not.mp c_166)))
                        refine ml_if2 (S1 := (155, [(0, .ref m0), (1, .int x1), (2, .int x2)], [], M)) (S2 := (148, [(0, .ref m0), (1, .int x1), (2, .int x2)], [], M)) rfl rfl rfl (fun c_145 => ?_) (fun c_145 => ?_)
                        · have c_145 : x2 < 153 := of_decide_eq_true c_145
                          exact J_155 
                        · have c_145 : ¬ (x2 < 153) := of_decide_eq_false c_145
                          refine ml_blk 2 (S' := (152, [(0, .ref m0), (1, .int x1), (2, .int x2)], [.int 168, .int x2], M)) rfl ?_
                          refine ml_if2 (S1 := (169, [(0, .ref m0), (1, .int x1)], [], M)) (S2 := (155, [(0, .ref m0), (1, .int x1), (2, .int x2)], [], M)) rfl rfl rfl (fun c_152 => ?_) (fun c_152 => ?_)
                          · have c_152 : x2 ≤ 168 := of_decide_eq_true c_152
                            exact J_169  (Or.inl ⟨by have := i_nlt c_145; have : (153 : Int32).toInt = 153 := rfl; omega, by have := i_le c_152; have : (168 : Int32).toInt = 168 := rfl; omega⟩)
                          · have c_152 : ¬ (x2 ≤ 168) := of_decide_eq_false c_152
                            exact J_155 
                      · have c_130 : ¬ (¬ x2 = 188) := of_decide_eq_false c_130
                        exact J_133  (iln 2 hln 188 188 (by rw [show _ = (188 : Int32) from Decidable.not_not.mp c_130]; decide) (by rw [show _ = (188 : Int32) from Decidable.not_not.mp c_130]; decide) mlk_2_188_188)
                refine ml_if2 (S1 := (112, [(0, .ref m0), (1, .int x1), (2, .int x2)], [], M)) (S2 := (106, [(0, .ref m0), (1, .int x1), (2, .int x2)], [], M)) rfl rfl rfl (fun c_103 => ?_) (fun c_103 => ?_)
                · have c_103 : x2 < 54 := of_decide_eq_true c_103
                  exact J_112 
                · have c_103 : ¬ (x2 < 54) := of_decide_eq_false c_103
                  refine ml_blk 2 (S' := (109, [(0, .ref m0), (1, .int x1), (2, .int x2)], [.int 58, .int x2], M)) rfl ?_
                  refine ml_if2 (S1 := (133, [(0, .ref m0), (1, .int x1)], [], M)) (S2 := (112, [(0, .ref m0), (1, .int x1), (2, .int x2)], [], M)) rfl rfl rfl (fun c_109 => ?_) (fun c_109 => ?_)
                  · have c_109 : x2 ≤ 58 := of_decide_eq_true c_109
                    exact J_133  (iln 2 hln 54 58 (by have := i_nlt c_103; have : (54 : Int32).toInt = 54 := rfl; omega) (by have := i_le c_109; have : (58 : Int32).toInt = 58 := rfl; omega) mlk_2_54_58)
                  · have c_109 : ¬ (x2 ≤ 58) := of_decide_eq_false c_109
                    exact J_112 
              refine ml_if2 (S1 := (100, [(0, .ref m0), (1, .int x1), (2, .int x2)], [], M)) (S2 := (94, [(0, .ref m0), (1, .int x1), (2, .int x2)], [], M)) rfl rfl rfl (fun c_91 => ?_) (fun c_91 => ?_)
              · have c_91 : x2 < 21 := of_decide_eq_true c_91
                exact J_100 
              · have c_91 : ¬ (x2 < 21) := of_decide_eq_false c_91
                refine ml_blk 2 (S' := (97, [(0, .ref m0), (1, .int x1), (2, .int x2)], [.int 25, .int x2], M)) rfl ?_
                refine ml_if2 (S1 := (133, [(0, .ref m0), (1, .int x1)], [], M)) (S2 := (100, [(0, .ref m0), (1, .int x1), (2, .int x2)], [], M)) rfl rfl rfl (fun c_97 => ?_) (fun c_97 => ?_)
                · have c_97 : x2 ≤ 25 := of_decide_eq_true c_97
                  exact J_133  (iln 2 hln 21 25 (by have := i_nlt c_91; have : (21 : Int32).toInt = 21 := rfl; omega) (by have := i_le c_97; have : (25 : Int32).toInt = 25 := rfl; omega) mlk_2_21_25)
                · have c_97 : ¬ (x2 ≤ 25) := of_decide_eq_false c_97
                  exact J_100 
          · have c_71 : ¬ (¬ x2 = 17) := of_decide_eq_false c_71
            have h3 : (3 : Int) ≤ nn := iln 3 hln 17 17 (by rw [show _ = (17 : Int32) from Decidable.not_not.mp c_71]; decide) (by rw [show _ = (17 : Int32) from Decidable.not_not.mp c_71]; decide) mlk_3_17_17
            refine ml_blk 3 (S' := (77, [(0, .ref m0), (1, .int x1), (2, .int x2)], [.int 1, .int x1, .ref m0], M)) rfl ?_
            refine ml_st (S' := (78, [(0, .ref m0), (1, .int x1), (2, .int x2)], [.int (x1 + 1), .ref m0], M)) rfl rfl rfl ?_
            refine ml_call (a := [.ref m0, .int (x1 + 1)]) (rest := []) rfl (hR.okc rfl rfl rfl) rfl rfl (rm_s2 hR hF hC (by omega) (by omega) (by omega)) (fun v29 M30 h31 => ?_)
            obtain ⟨rfl, h31⟩ := h31
            rw [h31]
            show ml _ _ _ (81, [(0, .ref m0), (1, .int x1), (2, .int x2)], [.int (S2 f ca (x1 + 1))], M) _
            exact ml_ret rfl (rfl) (⟨⟨_, rfl⟩, rfl⟩)
        · have c_56 : ¬ (¬ x2 = 16) := of_decide_eq_false c_56
          have h2 : (2 : Int) ≤ nn := iln 2 hln 16 16 (by rw [show _ = (16 : Int32) from Decidable.not_not.mp c_56]; decide) (by rw [show _ = (16 : Int32) from Decidable.not_not.mp c_56]; decide) mlk_2_16_16
          refine ml_blk 3 (S' := (62, [(0, .ref m0), (1, .int x1), (2, .int x2)], [.int 1, .int x1, .ref m0], M)) rfl ?_
          refine ml_st (S' := (63, [(0, .ref m0), (1, .int x1), (2, .int x2)], [.int (x1 + 1), .ref m0], M)) rfl rfl rfl ?_
          refine ml_call (a := [.ref m0, .int (x1 + 1)]) (rest := []) rfl (hR.okc rfl rfl rfl) rfl rfl (rm_b1 hR hF hC (by omega) (by omega) (by omega)) (fun v32 M33 h34 => ?_)
          obtain ⟨rfl, h34⟩ := h34
          rw [h34]
          show ml _ _ _ (66, [(0, .ref m0), (1, .int x1), (2, .int x2)], [.int (f1 f (ca + (x1 + 1)))], M) _
          refine ml_st (S' := (67, [(0, .ref m0), (1, .int x1), (2, .int x2)], [.int ((f1 f (ca + (x1 + 1))).toInt8.toInt32)], M)) rfl rfl rfl ?_
          exact ml_ret rfl (rfl) (⟨⟨_, rfl⟩, rfl⟩)
      refine ml_if2 (S1 := (53, [(0, .ref m0), (1, .int x1), (2, .int x2)], [], M)) (S2 := (40, [(0, .ref m0), (1, .int x1), (2, .int x2)], [], M)) rfl rfl rfl (fun c_37 => ?_) (fun c_37 => ?_)
      · have c_37 : x2 < 59 := of_decide_eq_true c_37
        exact J_53 
      · have c_37 : ¬ (x2 < 59) := of_decide_eq_false c_37
        refine ml_blk 2 (S' := (43, [(0, .ref m0), (1, .int x1), (2, .int x2)], [.int 78, .int x2], M)) rfl ?_
        refine ml_if2 (S1 := (53, [(0, .ref m0), (1, .int x1), (2, .int x2)], [], M)) (S2 := (46, [(0, .ref m0), (1, .int x1), (2, .int x2)], [], M)) rfl rfl rfl (fun c_43 => ?_) (fun c_43 => ?_)
        · have c_43 : 78 < x2 := of_decide_eq_true c_43
          exact J_53 
        · have c_43 : ¬ (78 < x2) := of_decide_eq_false c_43
          refine ml_blk 3 (S' := (50, [(0, .ref m0), (1, .int x1), (2, .int x2)], [.int (x2 - 59)], M)) rfl ?_
          refine ml_st (S' := (51, [(0, .ref m0), (1, .int x1), (2, .int x2)], [.int 4, .int (x2 - 59)], M)) rfl rfl rfl ?_
          refine ml_st (S' := (52, [(0, .ref m0), (1, .int x1), (2, .int x2)], [.int ((x2 - 59) - (x2 - 59) / 4 * 4)], M)) rfl rfl rfl ?_
          exact ml_ret rfl (rfl) (⟨⟨_, rfl⟩, rfl⟩)
    refine ml_if2 (S1 := (34, [(0, .ref m0), (1, .int x1), (2, .int x2)], [], M)) (S2 := (21, [(0, .ref m0), (1, .int x1), (2, .int x2)], [], M)) rfl rfl rfl (fun c_18 => ?_) (fun c_18 => ?_)
    · have c_18 : x2 < 26 := of_decide_eq_true c_18
      exact J_34 
    · have c_18 : ¬ (x2 < 26) := of_decide_eq_false c_18
      refine ml_blk 2 (S' := (24, [(0, .ref m0), (1, .int x1), (2, .int x2)], [.int 45, .int x2], M)) rfl ?_
      refine ml_if2 (S1 := (34, [(0, .ref m0), (1, .int x1), (2, .int x2)], [], M)) (S2 := (27, [(0, .ref m0), (1, .int x1), (2, .int x2)], [], M)) rfl rfl rfl (fun c_24 => ?_) (fun c_24 => ?_)
      · have c_24 : 45 < x2 := of_decide_eq_true c_24
        exact J_34 
      · have c_24 : ¬ (45 < x2) := of_decide_eq_false c_24
        refine ml_blk 3 (S' := (31, [(0, .ref m0), (1, .int x1), (2, .int x2)], [.int (x2 - 26)], M)) rfl ?_
        refine ml_st (S' := (32, [(0, .ref m0), (1, .int x1), (2, .int x2)], [.int 4, .int (x2 - 26)], M)) rfl rfl rfl ?_
        refine ml_st (S' := (33, [(0, .ref m0), (1, .int x1), (2, .int x2)], [.int ((x2 - 26) - (x2 - 26) / 4 * 4)], M)) rfl rfl rfl ?_
        exact ml_ret rfl (rfl) (⟨⟨_, rfl⟩, rfl⟩)
  · have c_4 : ¬ (¬ x2 = 196) := of_decide_eq_false c_4
    have h4 : (4 : Int) ≤ nn := iln 4 hln 196 196 (by rw [show _ = (196 : Int32) from Decidable.not_not.mp c_4]; decide) (by rw [show _ = (196 : Int32) from Decidable.not_not.mp c_4]; decide) mlk_4_196_196
    refine ml_blk 3 (S' := (10, [(0, .ref m0), (1, .int x1), (2, .int x2)], [.int 2, .int x1, .ref m0], M)) rfl ?_
    refine ml_st (S' := (11, [(0, .ref m0), (1, .int x1), (2, .int x2)], [.int (x1 + 2), .ref m0], M)) rfl rfl rfl ?_
    refine ml_call (a := [.ref m0, .int (x1 + 2)]) (rest := []) rfl (hR.okc rfl rfl rfl) rfl rfl (rm_b2 hR hF hC (by omega) (by omega) (by omega)) (fun v35 M36 h37 => ?_)
    obtain ⟨rfl, h37⟩ := h37
    rw [h37]
    show ml _ _ _ (14, [(0, .ref m0), (1, .int x1), (2, .int x2)], [.int (f2 f (ca + (x1 + 2)))], M) _
    exact ml_ret rfl (rfl) (⟨⟨_, rfl⟩, rfl⟩)
set_option maxHeartbeats 2000000 in
theorem rm_second {g : xe_G}  {m0 : Nat} {q : Nat → Nat} {z : Nat × Nat} {I : rI} {R : rR} {M : mi_H} {x1 x2 : Int32} {n : Nat} {f : Nat → Int32} {ca cl : Int32}  (hR : RS g m0 q z I R M) (hF : FK n f I R) (hC : CK n ca cl I R) (hI : INS f ca cl x1) (hop : f1 f (ca + x1) = x2) {d : Nat} (hd : 5 ≤ d) : mt (mT g) d 241 [.ref m0, .int x1, .int x2] M (fun v M' => (∃ x : Int32, v = some (.int x)) ∧ M' = M) := by
  obtain ⟨d, rfl⟩ : ∃ e, d = e + 1 := ⟨d - 1, by omega⟩
  refine mt_in (b := mb_241 g) rfl rfl ?_
  show ml (mT g) d (mb_241 g).2 (0, [(0, .ref m0), (1, .int x1), (2, .int x2)], [], M) _
  have hn := hF.1
  obtain ⟨hca, hcl, hcn⟩ := hC.2.2
  have hI2 := hI
  obtain ⟨h0, nn, hn1, hnn, hln, h196, hsw⟩ := hI2
  rw [hop] at hln
  have d1 : (x1 + 1).toInt = x1.toInt + 1 := by have e9 : (1 : Int32).toInt = 1 := rfl; rw [i_add (by omega) (by omega), e9]
  have d2 : (x1 + 2).toInt = x1.toInt + 2 := by have e9 : (2 : Int32).toInt = 2 := rfl; rw [i_add (by omega) (by omega), e9]
  have d3 : (x1 + 3).toInt = x1.toInt + 3 := by have e9 : (3 : Int32).toInt = 3 := rfl; rw [i_add (by omega) (by omega), e9]
  have d4 : (x1 + 4).toInt = x1.toInt + 4 := by have e9 : (4 : Int32).toInt = 4 := rfl; rw [i_add (by omega) (by omega), e9]
  have hp := pd_b h0 (by omega)
  have p8 : ((pd x1) + 8).toInt = (pd x1).toInt + 8 := by have e9 : (8 : Int32).toInt = 8 := rfl; rw [i_add (by omega) (by omega), e9]
  refine ml_blk 2 (S' := (4, [(0, .ref m0), (1, .int x1), (2, .int x2)], [.int 196, .int x2], M)) rfl ?_
  refine ml_if2 (S1 := (32, [(0, .ref m0), (1, .int x1), (2, .int x2)], [], M)) (S2 := (7, [(0, .ref m0), (1, .int x1), (2, .int x2)], [], M)) rfl rfl rfl (fun c_4 => ?_) (fun c_4 => ?_)
  · have c_4 : ¬ x2 = 196 := of_decide_eq_true c_4
    refine ml_blk 2 (S' := (36, [(0, .ref m0), (1, .int x1), (2, .int x2)], [.int 132, .int x2], M)) rfl ?_
    refine ml_if2 (S1 := (48, [(0, .ref m0), (1, .int x1), (2, .int x2)], [], M)) (S2 := (39, [(0, .ref m0), (1, .int x1), (2, .int x2)], [], M)) rfl rfl rfl (fun c_36 => ?_) (fun c_36 => ?_)
    · have c_36 : ¬ x2 = 132 := of_decide_eq_true c_36
      refine ml_blk 2 (S' := (52, [(0, .ref m0), (1, .int x1), (2, .int x2)], [.int 170, .int x2], M)) rfl ?_
      refine ml_if2 (S1 := (67, [(0, .ref m0), (1, .int x1), (2, .int x2)], [], M)) (S2 := (55, [(0, .ref m0), (1, .int x1), (2, .int x2)], [], M)) rfl rfl rfl (fun c_52 => ?_) (fun c_52 => ?_)
      · have c_52 : ¬ x2 = 170 := of_decide_eq_true c_52
        refine ml_blk 2 (S' := (71, [(0, .ref m0), (1, .int x1), (2, .int x2)], [.int 197, .int x2], M)) rfl ?_
        refine ml_if2 (S1 := (84, [(0, .ref m0), (1, .int x1), (2, .int x2)], [], M)) (S2 := (74, [(0, .ref m0), (1, .int x1), (2, .int x2)], [], M)) rfl rfl rfl (fun c_71 => ?_) (fun c_71 => ?_)
        · have c_71 : ¬ x2 = 197 := of_decide_eq_true c_71
          refine ml_st (S' := (85, [], [.int 0], M)) rfl rfl rfl ?_
          exact ml_ret rfl (rfl) (⟨⟨_, rfl⟩, rfl⟩)
        · have c_71 : ¬ (¬ x2 = 197) := of_decide_eq_false c_71
          have h4 : (4 : Int) ≤ nn := iln 4 hln 197 197 (by rw [show _ = (197 : Int32) from Decidable.not_not.mp c_71]; decide) (by rw [show _ = (197 : Int32) from Decidable.not_not.mp c_71]; decide) mlk_4_197_197
          refine ml_blk 3 (S' := (77, [(0, .ref m0), (1, .int x1), (2, .int x2)], [.int 3, .int x1, .ref m0], M)) rfl ?_
          refine ml_st (S' := (78, [(0, .ref m0), (1, .int x1), (2, .int x2)], [.int (x1 + 3), .ref m0], M)) rfl rfl rfl ?_
          refine ml_call (a := [.ref m0, .int (x1 + 3)]) (rest := []) rfl (hR.okc rfl rfl rfl) rfl rfl (rm_b1 hR hF hC (by omega) (by omega) (by omega)) (fun v11 M12 h13 => ?_)
          obtain ⟨rfl, h13⟩ := h13
          rw [h13]
          show ml _ _ _ (81, [(0, .ref m0), (1, .int x1), (2, .int x2)], [.int (f1 f (ca + (x1 + 3)))], M) _
          refine ml_st (S' := (85, [], [.int (f1 f (ca + (x1 + 3)))], M)) rfl rfl rfl ?_
          exact ml_ret rfl (rfl) (⟨⟨_, rfl⟩, rfl⟩)
      · have c_52 : ¬ (¬ x2 = 170) := of_decide_eq_false c_52
        have ho : f1 f (ca + x1) = 170 := by rw [hop]; exact Decidable.not_not.mp c_52
        have h12 := ((hI.sw (Or.inl ho)).1 ho).1
        refine ml_blk 2 (S' := (57, [(0, .ref m0), (1, .int x1), (2, .int x2)], [.int x1, .ref m0], M)) rfl ?_
        refine ml_call (a := [.int x1]) (rest := [.ref m0]) rfl (rfl) rfl rfl (rm_pad hR (by omega)) (fun v14 M15 h16 => ?_)
        obtain ⟨rfl, h16⟩ := h16
        rw [h16]
        show ml _ _ _ (60, [(0, .ref m0), (1, .int x1), (2, .int x2)], [.int (pd x1), .ref m0], M) _
        refine ml_blk 2 (S' := (63, [(0, .ref m0), (1, .int x1), (2, .int x2)], [.int ((pd x1) + 8), .ref m0], M)) rfl ?_
        refine ml_call (a := [.ref m0, .int ((pd x1) + 8)]) (rest := []) rfl (hR.okc rfl rfl rfl) rfl rfl (rm_b4 hR hF hC (by omega) (by omega) (by omega)) (fun v17 M18 h19 => ?_)
        obtain ⟨rfl, h19⟩ := h19
        rw [h19]
        show ml _ _ _ (66, [(0, .ref m0), (1, .int x1), (2, .int x2)], [.int (B4 f ca ((pd x1) + 8))], M) _
        exact ml_ret rfl (rfl) (⟨⟨_, rfl⟩, rfl⟩)
    · have c_36 : ¬ (¬ x2 = 132) := of_decide_eq_false c_36
      have h3 : (3 : Int) ≤ nn := iln 3 hln 132 132 (by rw [show _ = (132 : Int32) from Decidable.not_not.mp c_36]; decide) (by rw [show _ = (132 : Int32) from Decidable.not_not.mp c_36]; decide) mlk_3_132_132
      refine ml_blk 3 (S' := (42, [(0, .ref m0), (1, .int x1), (2, .int x2)], [.int 2, .int x1, .ref m0], M)) rfl ?_
      refine ml_st (S' := (43, [(0, .ref m0), (1, .int x1), (2, .int x2)], [.int (x1 + 2), .ref m0], M)) rfl rfl rfl ?_
      refine ml_call (a := [.ref m0, .int (x1 + 2)]) (rest := []) rfl (hR.okc rfl rfl rfl) rfl rfl (rm_b1 hR hF hC (by omega) (by omega) (by omega)) (fun v20 M21 h22 => ?_)
      obtain ⟨rfl, h22⟩ := h22
      rw [h22]
      show ml _ _ _ (46, [(0, .ref m0), (1, .int x1), (2, .int x2)], [.int (f1 f (ca + (x1 + 2)))], M) _
      refine ml_st (S' := (47, [(0, .ref m0), (1, .int x1), (2, .int x2)], [.int ((f1 f (ca + (x1 + 2))).toInt8.toInt32)], M)) rfl rfl rfl ?_
      exact ml_ret rfl (rfl) (⟨⟨_, rfl⟩, rfl⟩)
  · have c_4 : ¬ (¬ x2 = 196) := of_decide_eq_false c_4
    have h4 : (4 : Int) ≤ nn := iln 4 hln 196 196 (by rw [show _ = (196 : Int32) from Decidable.not_not.mp c_4]; decide) (by rw [show _ = (196 : Int32) from Decidable.not_not.mp c_4]; decide) mlk_4_196_196
    refine ml_blk 3 (S' := (10, [(0, .ref m0), (1, .int x1), (2, .int x2)], [.int 1, .int x1, .ref m0], M)) rfl ?_
    refine ml_st (S' := (11, [(0, .ref m0), (1, .int x1), (2, .int x2)], [.int (x1 + 1), .ref m0], M)) rfl rfl rfl ?_
    refine ml_call (a := [.ref m0, .int (x1 + 1)]) (rest := []) rfl (hR.okc rfl rfl rfl) rfl rfl (rm_b1 hR hF hC (by omega) (by omega) (by omega)) (fun v23 M24 h25 => ?_)
    obtain ⟨rfl, h25⟩ := h25
    rw [h25]
    show ml _ _ _ (14, [(0, .ref m0), (1, .int x1), (2, .int x2)], [.int (f1 f (ca + (x1 + 1)))], M) _
    refine ml_st (S' := (17, [(0, .ref m0), (1, .int x1), (2, .int x2)], [.int 132, .int (f1 f (ca + (x1 + 1)))], M)) rfl rfl rfl ?_
    refine ml_if2 (S1 := (30, [(0, .ref m0), (1, .int x1), (2, .int x2)], [], M)) (S2 := (20, [(0, .ref m0), (1, .int x1), (2, .int x2)], [], M)) rfl rfl rfl (fun c_17 => ?_) (fun c_17 => ?_)
    · have c_17 : ¬ (f1 f (ca + (x1 + 1))) = 132 := of_decide_eq_true c_17
      refine ml_st (S' := (31, [], [.int 0], M)) rfl rfl rfl ?_
      exact ml_ret rfl (rfl) (⟨⟨_, rfl⟩, rfl⟩)
    · have c_17 : ¬ (¬ (f1 f (ca + (x1 + 1))) = 132) := of_decide_eq_false c_17
      have h6 := h196 (by rw [hop]; exact Decidable.not_not.mp c_4) (Decidable.not_not.mp c_17)
      refine ml_blk 3 (S' := (23, [(0, .ref m0), (1, .int x1), (2, .int x2)], [.int 4, .int x1, .ref m0], M)) rfl ?_
      refine ml_st (S' := (24, [(0, .ref m0), (1, .int x1), (2, .int x2)], [.int (x1 + 4), .ref m0], M)) rfl rfl rfl ?_
      refine ml_call (a := [.ref m0, .int (x1 + 4)]) (rest := []) rfl (hR.okc rfl rfl rfl) rfl rfl (rm_s2 hR hF hC (by omega) (by omega) (by omega)) (fun v26 M27 h28 => ?_)
      obtain ⟨rfl, h28⟩ := h28
      rw [h28]
      show ml _ _ _ (27, [(0, .ref m0), (1, .int x1), (2, .int x2)], [.int (S2 f ca (x1 + 4))], M) _
      refine ml_st (S' := (31, [], [.int (S2 f ca (x1 + 4))], M)) rfl rfl rfl ?_
      exact ml_ret rfl (rfl) (⟨⟨_, rfl⟩, rfl⟩)
set_option maxHeartbeats 2000000 in
theorem rm_cut {g : xe_G}  {m0 : Nat} {q : Nat → Nat} {z : Nat × Nat} {I : rI} {R : rR} {M : mi_H} {x1 kn co si : Int32} {n : Nat} {f : Nat → Int32}  (hR : RS g m0 q z I R M) (hk18 : I 18 = some kn) (hk74 : I 74 = some co) (hk9 : I 9 = some si) (hQ : CUO f n co I R) (hG : (kn < 0 ∨ GD n f I R)) {d : Nat} (hd : 8 ≤ d) : mt (mT g) d 199 [.ref m0, .int x1] M (fun v M' => ∃ (x : Int32) (I' : rI) (R' : rR), v = some (.int x) ∧ RS g m0 q z I' R' M' ∧ eqI [0, 74, 75, 76, 77, 78, 79] I I' ∧ eqR [80, 81] R R' ∧ ∃ c : Int32, I' 74 = some c ∧ CUO f n c I' R') := by
  obtain ⟨d, rfl⟩ : ∃ e, d = e + 1 := ⟨d - 1, by omega⟩
  refine mt_in (b := mb_199 g) rfl rfl ?_
  show ml (mT g) d (mb_199 g).2 (0, [(0, .ref m0), (1, .int x1)], [], M) _
  refine ml_blk 2 (S' := (2, [(0, .ref m0), (1, .int x1)], [.int 0, .ref m0], M)) rfl ?_
  refine rp_int rfl hR rfl (fun M11 I12 hR13 e14 f15 => ?_)
  show ml _ _ _ (5, [(0, .ref m0), (1, .int x1)], [], M11) _
  refine ml_blk 2 (S' := (7, [(0, .ref m0), (1, .int x1)], [.int x1, .ref m0], M11)) rfl ?_
  refine ml_call (a := [.ref m0, .int x1]) (rest := []) rfl (hR13.okc rfl rfl rfl) rfl rfl (rm_noCode hR13 ((f15 18 (by decide)).trans (hk18)) (hG.imp id (fun h => h.mono (pIx f15 (by decide)) (fun _ _ => rfl))) (by omega)) (fun v16 M17 h18 => ?_)
  obtain ⟨⟨u19, rfl, z20, w21⟩, h18⟩ := h18
  rw [h18]
  show ml _ _ _ (10, [(0, .ref m0), (1, .int x1)], [.int u19], M11) _
  refine ml_if (S1 := (15, [(0, .ref m0), (1, .int x1)], [], M11)) (S2 := (13, [(0, .ref m0), (1, .int x1)], [], M11)) rfl rfl rfl (fun c_10 => ?_) (fun c_10 => ?_)
  · have c_10 : u19 = 0 := of_decide_eq_true c_10
    obtain ⟨hkn, hx0, hx8, c9, l9, t9, h37, h38, h40, hc0, hl0, hcl9⟩ := w21.resolve_left (by rw [c_10]; decide)
    obtain ⟨S, cN, sa, sl, ch, cp, mj, pa, py, hA, fA, mA, aA, nf, ni, kf, km, hF0, hY0, hP0, hE0, hFO, kq54, kq58, kq61, hkf, kq25, hfk, hkm, kq26, hmk, hNW⟩ := hG.resolve_left (hkn)
    have hn := hF0.1
    refine ml_blk 2 (S' := (17, [(0, .ref m0), (1, .int x1)], [.int x1, .ref m0], M11)) rfl ?_
    have hF22 : FK n f I12 R := (hF0.mono (pIx f15 (by decide)) (fun _ _ => rfl))
    have hY23 : SK S cN sa sl ch I12 R := (hY0.mono (pIx f15 (by decide)) (fun _ _ => rfl))
    have hP24 : PK n f S cp mj pa py I12 R := (hP0.mono (pIx f15 (by decide)) (fun _ _ => rfl))
    have hQ25 : CUO f n co I12 R := (hQ.mono (pIx f15 (by decide)) (fun _ _ => rfl))
    refine ml_call (a := [.ref m0, .int x1]) (rest := []) rfl (hR13.okc rfl rfl rfl) rfl rfl (rm_cuts hR13 ((f15 74 (by decide)).trans (hk74)) ((f15 9 (by decide)).trans (hk9)) hF22 hY23 hP24 hE0 (hx0) (hx8) (h37) (h38) (h40) (hc0) (hl0) (hcl9) (hQ25.of hx0) (by omega)) (fun v26 M27 h28 => ?_)
    obtain ⟨u34, I29, R30, rfl, hR31, hI32, hV33, z35, w36⟩ := h28
    show ml _ _ _ (20, [(0, .ref m0), (1, .int x1)], [.int u34], M27) _
    obtain ⟨hcut, h74, hz⟩ := w36
    have hQ9 : CUO f n x1 I29 R30 := Or.inr hcut
    obtain ⟨ca, cl, wc, mx, mn, hC9, h75, h76, h79, hmn, hkb, hall⟩ := hcut
    refine ml_if (S1 := (30, [(0, .ref m0), (1, .int x1)], [], M27)) (S2 := (23, [(0, .ref m0), (1, .int x1)], [], M27)) rfl rfl rfl (fun c_20 => ?_) (fun c_20 => ?_)
    · have c_20 : u34 = 0 := of_decide_eq_true c_20
      refine ml_blk 2 (S' := (33, [(0, .ref m0), (1, .int x1)], [.ref m0, .int (-2)], M27)) rfl ?_
      refine rg_int (S' := (36, [(0, .ref m0), (1, .int x1)], [.int wc, .int (-2)], M27)) rfl hR31 rfl (h76) rfl ?_
      refine ml_st (S' := (37, [], [.int ((-2) - wc)], M27)) rfl rfl rfl ?_
      exact ml_ret rfl (rfl) (⟨_, _, _, rfl, hR31, ((eqI.rf.put f15 (by decide)).tr hI32 (by decide)), (eqR.rf.tr hV33 (by decide)), ⟨_, h74, hQ9⟩⟩)
    · have c_20 : ¬ (u34 = 0) := of_decide_eq_false c_20
      refine ml_st (S' := (24, [(0, .ref m0), (1, .int x1)], [.ref m0], M27)) rfl rfl rfl ?_
      refine rg_int (S' := (27, [(0, .ref m0), (1, .int x1)], [.int (nI mn)], M27)) rfl hR31 rfl (h75) rfl ?_
      refine ml_st (S' := (37, [], [.int (nI mn)], M27)) rfl rfl rfl ?_
      exact ml_ret rfl (rfl) (⟨_, _, _, rfl, hR31, ((eqI.rf.put f15 (by decide)).tr hI32 (by decide)), (eqR.rf.tr hV33 (by decide)), ⟨_, h74, hQ9⟩⟩)
  · have c_10 : ¬ (u19 = 0) := of_decide_eq_false c_10
    refine ml_st (S' := (14, [(0, .ref m0), (1, .int x1)], [.int (-1)], M11)) rfl rfl rfl ?_
    have hQ37 : CUO f n co I12 R := (hQ.mono (pIx f15 (by decide)) (fun _ _ => rfl))
    exact ml_ret rfl (rfl) (⟨_, _, _, rfl, hR13, (eqI.rf.put f15 (by decide)), eqR.rf, ⟨_, (f15 74 (by decide)).trans (hk74), hQ37⟩⟩)
set_option maxHeartbeats 2000000 in
theorem rm_instruction {g : xe_G}  {m0 : Nat} {q : Nat → Nat} {z : Nat × Nat} {I : rI} {R : rR} {M : mi_H} {x1 x2 x3 kn co si : Int32} {n : Nat} {f : Nat → Int32}  (hR : RS g m0 q z I R M) (hk18 : I 18 = some kn) (hk74 : I 74 = some co) (hk9 : I 9 = some si) (hQ : CUO f n co I R) (hG : (kn < 0 ∨ GD n f I R)) {d : Nat} (hd : 8 ≤ d) : mt (mT g) d 215 [.ref m0, .int x1, .int x2, .int x3] M (fun v M' => ∃ (x : Int32) (I' : rI) (R' : rR), v = some (.int x) ∧ RS g m0 q z I' R' M' ∧ eqI [0, 74, 75, 76, 77, 78, 79] I I' ∧ eqR [80, 81] R R' ∧ ∃ c : Int32, I' 74 = some c ∧ CUO f n c I' R') := by
  obtain ⟨d, rfl⟩ : ∃ e, d = e + 1 := ⟨d - 1, by omega⟩
  refine mt_in (b := mb_215 g) rfl rfl ?_
  show ml (mT g) d (mb_215 g).2 (0, [(0, .ref m0), (1, .int x1), (2, .int x2), (3, .int x3)], [], M) _
  refine ml_blk 2 (S' := (2, [(0, .ref m0), (1, .int x1), (2, .int x2), (3, .int x3)], [.int 0, .ref m0], M)) rfl ?_
  refine rp_int rfl hR rfl (fun M11 I12 hR13 e14 f15 => ?_)
  show ml _ _ _ (5, [(0, .ref m0), (1, .int x1), (2, .int x2), (3, .int x3)], [], M11) _
  refine ml_st (S' := (6, [(0, .ref m0), (1, .int x1), (2, .int x2), (3, .int x3)], [.int x3], M11)) rfl rfl rfl ?_
  refine ml_if (S1 := (14, [(0, .ref m0)], [], M11)) (S2 := (9, [(0, .ref m0), (1, .int x1), (2, .int x2), (3, .int x3)], [], M11)) rfl rfl rfl (fun c_6 => ?_) (fun c_6 => ?_)
  · have c_6 : x3 < 0 := of_decide_eq_true c_6
    refine ml_st (S' := (15, [(0, .ref m0)], [.ref m0], M11)) rfl rfl rfl ?_
    refine ml_call (a := [.ref m0]) (rest := []) rfl (hR13.okc rfl rfl rfl) rfl rfl (rm_bad hR13 (by omega)) (fun v16 M17 h18 => ?_)
    obtain ⟨u24, I19, R20, rfl, hR21, hI22, hV23, w25⟩ := h18
    show ml _ _ _ (18, [(0, .ref m0)], [.int u24], M17) _
    have hQ26 : CUO f n co I19 R20 := ((hQ.mono (pIx f15 (by decide)) (fun _ _ => rfl)).mono (cIx hI22 (by decide)) (cRx hV23 (by decide)))
    exact ml_ret rfl (rfl) (⟨_, _, _, rfl, hR21, ((eqI.rf.put f15 (by decide)).tr hI22 (by decide)), (eqR.rf.tr hV23 (by decide)), ⟨_, (hI22 74 (by decide)).trans ((f15 74 (by decide)).trans (hk74)), hQ26⟩⟩)
  · have c_6 : ¬ (x3 < 0) := of_decide_eq_false c_6
    refine ml_blk 2 (S' := (11, [(0, .ref m0), (1, .int x1), (2, .int x2), (3, .int x3)], [.int 4, .int x3], M11)) rfl ?_
    refine ml_if2 (S1 := (19, [(0, .ref m0), (1, .int x1), (2, .int x2), (3, .int x3)], [], M11)) (S2 := (14, [(0, .ref m0)], [], M11)) rfl rfl rfl (fun c_11 => ?_) (fun c_11 => ?_)
    · have c_11 : x3 ≤ 4 := of_decide_eq_true c_11
      refine ml_blk 2 (S' := (21, [(0, .ref m0), (1, .int x1), (2, .int x2), (3, .int x3)], [.int x1, .ref m0], M11)) rfl ?_
      refine ml_call (a := [.ref m0, .int x1]) (rest := []) rfl (hR13.okc rfl rfl rfl) rfl rfl (rm_noCode hR13 ((f15 18 (by decide)).trans (hk18)) (hG.imp id (fun h => h.mono (pIx f15 (by decide)) (fun _ _ => rfl))) (by omega)) (fun v27 M28 h29 => ?_)
      obtain ⟨⟨u30, rfl, z31, w32⟩, h29⟩ := h29
      rw [h29]
      show ml _ _ _ (24, [(0, .ref m0), (1, .int x1), (2, .int x2), (3, .int x3)], [.int u30], M11) _
      refine ml_if (S1 := (47, [], [], M11)) (S2 := (27, [(0, .ref m0), (1, .int x1), (2, .int x2), (3, .int x3)], [], M11)) rfl rfl rfl (fun c_24 => ?_) (fun c_24 => ?_)
      · have c_24 : ¬ u30 = 0 := of_decide_eq_true c_24
        refine ml_st (S' := (48, [], [.int (-1)], M11)) rfl rfl rfl ?_
        have hQ33 : CUO f n co I12 R := (hQ.mono (pIx f15 (by decide)) (fun _ _ => rfl))
        exact ml_ret rfl (rfl) (⟨_, _, _, rfl, hR13, (eqI.rf.put f15 (by decide)), eqR.rf, ⟨_, (f15 74 (by decide)).trans (hk74), hQ33⟩⟩)
      · have c_24 : ¬ (¬ u30 = 0) := of_decide_eq_false c_24
        obtain ⟨hkn, hx0, hx8, c9, l9, t9, h37, h38, h40, hc0, hl0, hcl9⟩ := w32.resolve_left (by have q := Decidable.not_not.mp c_24; rw [q]; decide)
        obtain ⟨S, cN, sa, sl, ch, cp, mj, pa, py, hA, fA, mA, aA, nf, ni, kf, km, hF0, hY0, hP0, hE0, hFO, kq54, kq58, kq61, hkf, kq25, hfk, hkm, kq26, hmk, hNW⟩ := hG.resolve_left (hkn)
        have hn := hF0.1
        refine ml_blk 2 (S' := (29, [(0, .ref m0), (1, .int x1), (2, .int x2), (3, .int x3)], [.int x1, .ref m0], M11)) rfl ?_
        have hF34 : FK n f I12 R := (hF0.mono (pIx f15 (by decide)) (fun _ _ => rfl))
        have hY35 : SK S cN sa sl ch I12 R := (hY0.mono (pIx f15 (by decide)) (fun _ _ => rfl))
        have hP36 : PK n f S cp mj pa py I12 R := (hP0.mono (pIx f15 (by decide)) (fun _ _ => rfl))
        have hQ37 : CUO f n co I12 R := (hQ.mono (pIx f15 (by decide)) (fun _ _ => rfl))
        refine ml_call (a := [.ref m0, .int x1]) (rest := []) rfl (hR13.okc rfl rfl rfl) rfl rfl (rm_cuts hR13 ((f15 74 (by decide)).trans (hk74)) ((f15 9 (by decide)).trans (hk9)) hF34 hY35 hP36 hE0 (hx0) (hx8) (h37) (h38) (h40) (hc0) (hl0) (hcl9) (hQ37.of hx0) (by omega)) (fun v38 M39 h40 => ?_)
        obtain ⟨u46, I41, R42, rfl, hR43, hI44, hV45, z47, w48⟩ := h40
        show ml _ _ _ (32, [(0, .ref m0), (1, .int x1), (2, .int x2), (3, .int x3)], [.int u46], M39) _
        obtain ⟨hcut, h74, hz⟩ := w48
        have hQ9 : CUO f n x1 I41 R42 := Or.inr hcut
        obtain ⟨ca, cl, wc, mx, mn, hC9, h75, h76, h79, hmn, hkb, hall⟩ := hcut
        refine ml_if (S1 := (47, [], [], M39)) (S2 := (35, [(0, .ref m0), (1, .int x1), (2, .int x2), (3, .int x3)], [], M39)) rfl rfl rfl (fun c_32 => ?_) (fun c_32 => ?_)
        · have c_32 : u46 = 0 := of_decide_eq_true c_32
          refine ml_st (S' := (48, [], [.int (-1)], M39)) rfl rfl rfl ?_
          exact ml_ret rfl (rfl) (⟨_, _, _, rfl, hR43, ((eqI.rf.put f15 (by decide)).tr hI44 (by decide)), (eqR.rf.tr hV45 (by decide)), ⟨_, h74, hQ9⟩⟩)
        · have c_32 : ¬ (u46 = 0) := of_decide_eq_false c_32
          refine ml_st (S' := (36, [(0, .ref m0), (1, .int x1), (2, .int x2), (3, .int x3)], [.int x2], M39)) rfl rfl rfl ?_
          refine ml_if (S1 := (47, [], [], M39)) (S2 := (39, [(0, .ref m0), (1, .int x1), (2, .int x2), (3, .int x3)], [], M39)) rfl rfl rfl (fun c_36 => ?_) (fun c_36 => ?_)
          · have c_36 : x2 < 0 := of_decide_eq_true c_36
            refine ml_st (S' := (48, [], [.int (-1)], M39)) rfl rfl rfl ?_
            exact ml_ret rfl (rfl) (⟨_, _, _, rfl, hR43, ((eqI.rf.put f15 (by decide)).tr hI44 (by decide)), (eqR.rf.tr hV45 (by decide)), ⟨_, h74, hQ9⟩⟩)
          · have c_36 : ¬ (x2 < 0) := of_decide_eq_false c_36
            refine ml_blk 2 (S' := (41, [(0, .ref m0), (1, .int x1), (2, .int x2), (3, .int x3)], [.ref m0, .int x2], M39)) rfl ?_
            refine rg_int (S' := (44, [(0, .ref m0), (1, .int x1), (2, .int x2), (3, .int x3)], [.int (nI mn), .int x2], M39)) rfl hR43 rfl (h75) rfl ?_
            refine ml_if2 (S1 := (49, [(0, .ref m0), (1, .int x1), (2, .int x2), (3, .int x3)], [], M39)) (S2 := (47, [], [], M39)) rfl rfl rfl (fun c_44 => ?_) (fun c_44 => ?_)
            · have c_44 : x2 < (nI mn) := of_decide_eq_true c_44
              have hk0 : 0 ≤ x2.toInt := i_nlt c_36
              have hclB : cl.toInt ≤ n := by have q := hC9.2.2; omega
              have hkl : x2.toInt < mn := by have q := i_lt c_44; rw [nI_val (by omega)] at q; exact q
              obtain ⟨p9, hp9, hins, hai⟩ := hall x2.toNatClampNeg (by show x2.toInt.toNat < mn; omega)
              obtain ⟨w, hw, hwn⟩ := hz.resolve_left c_32
              have hww : some wc = some w := h76.symm.trans hw
              cases hww
              have haim := hai hwn
              have hlt9 := hins.lt
              have hp90 := hins.1
              refine ml_st (S' := (50, [(0, .ref m0), (1, .int x1), (2, .int x2), (3, .int x3)], [.ref m0], M39)) rfl rfl rfl ?_
              refine rg_ref (S' := (53, [(0, .ref m0), (1, .int x1), (2, .int x2), (3, .int x3)], [.ref (q 80)], M39)) rfl hR43 rfl rfl ?_
              refine ml_st (S' := (54, [(0, .ref m0), (1, .int x1), (2, .int x2), (3, .int x3)], [.int x2, .ref (q 80)], M39)) rfl rfl rfl ?_
              refine ra_ld (k := 80) (S' := (55, [(0, .ref m0), (1, .int x1), (2, .int x2), (3, .int x3)], [.int p9], M39)) rfl hR43 rfl (vin_lt hk0 (by omega)) (hp9) rfl ?_
              refine ml_st (S' := (57, [(4, .int p9), (0, .ref m0), (1, .int x1), (2, .int x2), (3, .int x3)], [], M39)) rfl rfl rfl ?_
              refine ml_blk 2 (S' := (60, [(4, .int p9), (0, .ref m0), (1, .int x1), (2, .int x2), (3, .int x3)], [.int p9, .ref m0], M39)) rfl ?_
              have hF49 : FK n f I41 R42 := (hF34.mono (cIx hI44 (by decide)) (cRx hV45 (by decide)))
              refine ml_call (a := [.ref m0, .int p9]) (rest := []) rfl (hR43.okc rfl rfl rfl) rfl rfl (rm_b1 hR43 hF49 hC9 (hins.1) (hlt9) (by omega)) (fun v50 M51 h52 => ?_)
              obtain ⟨rfl, h52⟩ := h52
              rw [h52]
              show ml _ _ _ (63, [(4, .int p9), (0, .ref m0), (1, .int x1), (2, .int x2), (3, .int x3)], [.int (f1 f (ca + p9))], M39) _
              refine ml_st (S' := (65, [(5, .int (f1 f (ca + p9))), (4, .int p9), (0, .ref m0), (1, .int x1), (2, .int x2), (3, .int x3)], [], M39)) rfl rfl rfl ?_
              refine ml_st (S' := (66, [(5, .int (f1 f (ca + p9))), (4, .int p9), (0, .ref m0), (1, .int x1), (2, .int x2), (3, .int x3)], [.int x3], M39)) rfl rfl rfl ?_
              refine ml_if (S1 := (78, [(5, .int (f1 f (ca + p9))), (4, .int p9), (0, .ref m0), (1, .int x1), (2, .int x2), (3, .int x3)], [], M39)) (S2 := (69, [(5, .int (f1 f (ca + p9))), (4, .int p9), (0, .ref m0), (1, .int x1), (2, .int x2), (3, .int x3)], [], M39)) rfl rfl rfl (fun c_66 => ?_) (fun c_66 => ?_)
              · have c_66 : ¬ x3 = 0 := of_decide_eq_true c_66
                refine ml_blk 2 (S' := (80, [(5, .int (f1 f (ca + p9))), (4, .int p9), (0, .ref m0), (1, .int x1), (2, .int x2), (3, .int x3)], [.int 1, .int x3], M39)) rfl ?_
                refine ml_if2 (S1 := (86, [(5, .int (f1 f (ca + p9))), (4, .int p9), (0, .ref m0), (1, .int x1), (2, .int x2), (3, .int x3)], [], M39)) (S2 := (83, [(5, .int (f1 f (ca + p9))), (4, .int p9), (0, .ref m0), (1, .int x1), (2, .int x2), (3, .int x3)], [], M39)) rfl rfl rfl (fun c_80 => ?_) (fun c_80 => ?_)
                · have c_80 : ¬ x3 = 1 := of_decide_eq_true c_80
                  refine ml_blk 2 (S' := (88, [(5, .int (f1 f (ca + p9))), (4, .int p9), (0, .ref m0), (1, .int x1), (2, .int x2), (3, .int x3)], [.int 4, .int x3], M39)) rfl ?_
                  refine ml_if2 (S1 := (118, [(5, .int (f1 f (ca + p9))), (4, .int p9), (0, .ref m0), (1, .int x1), (2, .int x2), (3, .int x3)], [], M39)) (S2 := (91, [(5, .int (f1 f (ca + p9))), (4, .int p9), (0, .ref m0), (1, .int x1), (2, .int x2), (3, .int x3)], [], M39)) rfl rfl rfl (fun c_88 => ?_) (fun c_88 => ?_)
                  · have c_88 : ¬ x3 = 4 := of_decide_eq_true c_88
                    refine ml_blk 2 (S' := (120, [(5, .int (f1 f (ca + p9))), (4, .int p9), (0, .ref m0), (1, .int x1), (2, .int x2), (3, .int x3)], [.int 2, .int x3], M39)) rfl ?_
                    refine ml_if2 (S1 := (134, [(5, .int (f1 f (ca + p9))), (4, .int p9), (0, .ref m0), (1, .int x1), (2, .int x2), (3, .int x3)], [], M39)) (S2 := (123, [(5, .int (f1 f (ca + p9))), (4, .int p9), (0, .ref m0), (1, .int x1), (2, .int x2), (3, .int x3)], [], M39)) rfl rfl rfl (fun c_120 => ?_) (fun c_120 => ?_)
                    · have c_120 : ¬ x3 = 2 := of_decide_eq_true c_120
                      refine ml_blk 3 (S' := (139, [(5, .int (f1 f (ca + p9))), (4, .int p9), (0, .ref m0), (1, .int x1), (2, .int x2), (3, .int x3)], [.int (f1 f (ca + p9)), .int p9, .ref m0], M39)) rfl ?_
                      refine ml_call (a := [.ref m0, .int p9, .int (f1 f (ca + p9))]) (rest := []) rfl (hR43.okc rfl rfl rfl) rfl rfl (rm_second hR43 hF49 hC9 (hins) (rfl) (by omega)) (fun v53 M54 h55 => ?_)
                      obtain ⟨⟨u56, rfl⟩, h55⟩ := h55
                      rw [h55]
                      show ml _ _ _ (142, [], [.int u56], M39) _
                      exact ml_ret rfl (rfl) (⟨_, _, _, rfl, hR43, ((eqI.rf.put f15 (by decide)).tr hI44 (by decide)), (eqR.rf.tr hV45 (by decide)), ⟨_, h74, hQ9⟩⟩)
                    · have c_120 : ¬ (¬ x3 = 2) := of_decide_eq_false c_120
                      refine ml_blk 3 (S' := (128, [(5, .int (f1 f (ca + p9))), (4, .int p9), (0, .ref m0), (1, .int x1), (2, .int x2), (3, .int x3)], [.int (f1 f (ca + p9)), .int p9, .ref m0], M39)) rfl ?_
                      refine ml_call (a := [.ref m0, .int p9, .int (f1 f (ca + p9))]) (rest := []) rfl (hR43.okc rfl rfl rfl) rfl rfl (rm_first hR43 hF49 hC9 (hins) (rfl) (hkb) (haim) (by omega)) (fun v57 M58 h59 => ?_)
                      obtain ⟨⟨u60, rfl⟩, h59⟩ := h59
                      rw [h59]
                      show ml _ _ _ (131, [(5, .int (f1 f (ca + p9))), (4, .int p9), (0, .ref m0), (1, .int x1), (2, .int x2), (3, .int x3)], [.int u60], M39) _
                      refine ml_st (S' := (142, [], [.int u60], M39)) rfl rfl rfl ?_
                      exact ml_ret rfl (rfl) (⟨_, _, _, rfl, hR43, ((eqI.rf.put f15 (by decide)).tr hI44 (by decide)), (eqR.rf.tr hV45 (by decide)), ⟨_, h74, hQ9⟩⟩)
                  · have c_88 : ¬ (¬ x3 = 4) := of_decide_eq_false c_88
                    refine ml_blk 2 (S' := (96, [(5, .int (f1 f (ca + p9))), (4, .int p9), (0, .ref m0), (1, .int x1), (2, .int x2), (3, .int x3)], [.int 170, .int (f1 f (ca + p9))], M39)) rfl ?_
                    have J_107 : (f1 f (ca + p9) = 170 ∨ f1 f (ca + p9) = 171) → ml (mT g) d (mb_215 g).2 (107, [(0, .ref m0), (4, .int p9)], [], M39) (fun v M' => ∃ (x : Int32) (I' : rI) (R' : rR), v = some (.int x) ∧ RS g m0 q z I' R' M' ∧ eqI [0, 74, 75, 76, 77, 78, 79] I I' ∧ eqR [80, 81] R R' ∧ ∃ c : Int32, I' 74 = some c ∧ CUO f n c I' R') := by
                      intro hj_107
                      refine ml_blk 2 (S' := (110, [(0, .ref m0), (4, .int p9)], [.int p9, .ref m0], M39)) rfl ?_
                      refine ml_call (a := [.ref m0, .int p9]) (rest := []) rfl (hR43.okc rfl rfl rfl) rfl rfl (rm_ways hR43 hF49 hC9 (hins.1) (by omega) (hins.sw hj_107) (hj_107) (by omega)) (fun v61 M62 h63 => ?_)
                      obtain ⟨rfl, h63⟩ := h63
                      rw [h63]
                      show ml _ _ _ (113, [(0, .ref m0), (4, .int p9)], [.int (wyf f ca p9)], M39) _
                      refine ml_st (S' := (117, [], [.int (wyf f ca p9)], M39)) rfl rfl rfl ?_
                      exact ml_ret rfl (rfl) (⟨_, _, _, rfl, hR43, ((eqI.rf.put f15 (by decide)).tr hI44 (by decide)), (eqR.rf.tr hV45 (by decide)), ⟨_, h74, hQ9⟩⟩)
                    refine ml_if2 (S1 := (107, [(0, .ref m0), (4, .int p9)], [], M39)) (S2 := (99, [(5, .int (f1 f (ca + p9))), (4, .int p9), (0, .ref m0), (1, .int x1), (2, .int x2), (3, .int x3)], [], M39)) rfl rfl rfl (fun c_96 => ?_) (fun c_96 => ?_)
                    · have c_96 : (f1 f (ca + p9)) = 170 := of_decide_eq_true c_96
                      exact J_107  (Or.inl c_96)
                    · have c_96 : ¬ ((f1 f (ca + p9)) = 170) := of_decide_eq_false c_96
                      refine ml_blk 2 (S' := (104, [(5, .int (f1 f (ca + p9))), (4, .int p9), (0, .ref m0), (1, .int x1), (2, .int x2), (3, .int x3)], [.int 171, .int (f1 f (ca + p9))], M39)) rfl ?_
                      refine ml_if2 (S1 := (116, [(5, .int (f1 f (ca + p9))), (4, .int p9), (0, .ref m0), (1, .int x1), (2, .int x2), (3, .int x3)], [], M39)) (S2 := (107, [(0, .ref m0), (4, .int p9)], [], M39)) rfl rfl rfl (fun c_104 => ?_) (fun c_104 => ?_)
                      · have c_104 : ¬ (f1 f (ca + p9)) = 171 := of_decide_eq_true c_104
                        refine ml_st (S' := (117, [], [.int 0], M39)) rfl rfl rfl ?_
                        exact ml_ret rfl (rfl) (⟨_, _, _, rfl, hR43, ((eqI.rf.put f15 (by decide)).tr hI44 (by decide)), (eqR.rf.tr hV45 (by decide)), ⟨_, h74, hQ9⟩⟩)
                      · have c_104 : ¬ (¬ (f1 f (ca + p9)) = 171) := of_decide_eq_false c_104
                        exact J_107  (Or.inr (Decidable.not_not.mp c_104))
                · have c_80 : ¬ (¬ x3 = 1) := of_decide_eq_false c_80
                  refine ml_st (S' := (85, [(5, .int (f1 f (ca + p9))), (4, .int p9), (0, .ref m0), (1, .int x1), (2, .int x2), (3, .int x3)], [.int p9], M39)) rfl rfl rfl ?_
                  exact ml_ret rfl (rfl) (⟨_, _, _, rfl, hR43, ((eqI.rf.put f15 (by decide)).tr hI44 (by decide)), (eqR.rf.tr hV45 (by decide)), ⟨_, h74, hQ9⟩⟩)
              · have c_66 : ¬ (¬ x3 = 0) := of_decide_eq_false c_66
                refine ml_blk 3 (S' := (74, [(5, .int (f1 f (ca + p9))), (4, .int p9), (0, .ref m0), (1, .int x1), (2, .int x2), (3, .int x3)], [.int (f1 f (ca + p9)), .int p9, .ref m0], M39)) rfl ?_
                refine ml_call (a := [.ref m0, .int p9, .int (f1 f (ca + p9))]) (rest := []) rfl (hR43.okc rfl rfl rfl) rfl rfl (rm_plain hR43 hF49 hC9 (hins) (rfl) (by omega)) (fun v64 M65 h66 => ?_)
                obtain ⟨⟨u67, rfl⟩, h66⟩ := h66
                rw [h66]
                show ml _ _ _ (77, [(5, .int (f1 f (ca + p9))), (4, .int p9), (0, .ref m0), (1, .int x1), (2, .int x2), (3, .int x3)], [.int u67], M39) _
                exact ml_ret rfl (rfl) (⟨_, _, _, rfl, hR43, ((eqI.rf.put f15 (by decide)).tr hI44 (by decide)), (eqR.rf.tr hV45 (by decide)), ⟨_, h74, hQ9⟩⟩)
            · have c_44 : ¬ (x2 < (nI mn)) := of_decide_eq_false c_44
              refine ml_st (S' := (48, [], [.int (-1)], M39)) rfl rfl rfl ?_
              exact ml_ret rfl (rfl) (⟨_, _, _, rfl, hR43, ((eqI.rf.put f15 (by decide)).tr hI44 (by decide)), (eqR.rf.tr hV45 (by decide)), ⟨_, h74, hQ9⟩⟩)
    · have c_11 : ¬ (x3 ≤ 4) := of_decide_eq_false c_11
      refine ml_st (S' := (15, [(0, .ref m0)], [.ref m0], M11)) rfl rfl rfl ?_
      refine ml_call (a := [.ref m0]) (rest := []) rfl (hR13.okc rfl rfl rfl) rfl rfl (rm_bad hR13 (by omega)) (fun v68 M69 h70 => ?_)
      obtain ⟨u76, I71, R72, rfl, hR73, hI74, hV75, w77⟩ := h70
      show ml _ _ _ (18, [(0, .ref m0)], [.int u76], M69) _
      have hQ78 : CUO f n co I71 R72 := ((hQ.mono (pIx f15 (by decide)) (fun _ _ => rfl)).mono (cIx hI74 (by decide)) (cRx hV75 (by decide)))
      exact ml_ret rfl (rfl) (⟨_, _, _, rfl, hR73, ((eqI.rf.put f15 (by decide)).tr hI74 (by decide)), (eqR.rf.tr hV75 (by decide)), ⟨_, (hI74 74 (by decide)).trans ((f15 74 (by decide)).trans (hk74)), hQ78⟩⟩)
set_option maxHeartbeats 2000000 in
theorem rm_jump {g : xe_G}  {m0 : Nat} {q : Nat → Nat} {z : Nat × Nat} {I : rI} {R : rR} {M : mi_H} {x1 x2 x3 x4 kn co si : Int32} {n : Nat} {f : Nat → Int32}  (hR : RS g m0 q z I R M) (hk18 : I 18 = some kn) (hk74 : I 74 = some co) (hk9 : I 9 = some si) (hQ : CUO f n co I R) (hG : (kn < 0 ∨ GD n f I R)) {d : Nat} (hd : 8 ≤ d) : mt (mT g) d 220 [.ref m0, .int x1, .int x2, .int x3, .int x4] M (fun v M' => ∃ (x : Int32) (I' : rI) (R' : rR), v = some (.int x) ∧ RS g m0 q z I' R' M' ∧ eqI [0, 74, 75, 76, 77, 78, 79] I I' ∧ eqR [80, 81] R R' ∧ ∃ c : Int32, I' 74 = some c ∧ CUO f n c I' R') := by
  obtain ⟨d, rfl⟩ : ∃ e, d = e + 1 := ⟨d - 1, by omega⟩
  refine mt_in (b := mb_220 g) rfl rfl ?_
  show ml (mT g) d (mb_220 g).2 (0, [(0, .ref m0), (1, .int x1), (2, .int x2), (3, .int x3), (4, .int x4)], [], M) _
  refine ml_blk 2 (S' := (2, [(0, .ref m0), (1, .int x1), (2, .int x2), (3, .int x3), (4, .int x4)], [.int 0, .ref m0], M)) rfl ?_
  refine rp_int rfl hR rfl (fun M11 I12 hR13 e14 f15 => ?_)
  show ml _ _ _ (5, [(0, .ref m0), (1, .int x1), (2, .int x2), (3, .int x3), (4, .int x4)], [], M11) _
  refine ml_blk 2 (S' := (7, [(0, .ref m0), (1, .int x1), (2, .int x2), (3, .int x3), (4, .int x4)], [.int x1, .ref m0], M11)) rfl ?_
  refine ml_call (a := [.ref m0, .int x1]) (rest := []) rfl (hR13.okc rfl rfl rfl) rfl rfl (rm_noCode hR13 ((f15 18 (by decide)).trans (hk18)) (hG.imp id (fun h => h.mono (pIx f15 (by decide)) (fun _ _ => rfl))) (by omega)) (fun v16 M17 h18 => ?_)
  obtain ⟨⟨u19, rfl, z20, w21⟩, h18⟩ := h18
  rw [h18]
  show ml _ _ _ (10, [(0, .ref m0), (1, .int x1), (2, .int x2), (3, .int x3), (4, .int x4)], [.int u19], M11) _
  refine ml_if (S1 := (33, [], [], M11)) (S2 := (13, [(0, .ref m0), (1, .int x1), (2, .int x2), (3, .int x3), (4, .int x4)], [], M11)) rfl rfl rfl (fun c_10 => ?_) (fun c_10 => ?_)
  · have c_10 : ¬ u19 = 0 := of_decide_eq_true c_10
    refine ml_st (S' := (34, [], [.int (-1)], M11)) rfl rfl rfl ?_
    have hQ22 : CUO f n co I12 R := (hQ.mono (pIx f15 (by decide)) (fun _ _ => rfl))
    exact ml_ret rfl (rfl) (⟨_, _, _, rfl, hR13, (eqI.rf.put f15 (by decide)), eqR.rf, ⟨_, (f15 74 (by decide)).trans (hk74), hQ22⟩⟩)
  · have c_10 : ¬ (¬ u19 = 0) := of_decide_eq_false c_10
    obtain ⟨hkn, hx0, hx8, c9, l9, t9, h37, h38, h40, hc0, hl0, hcl9⟩ := w21.resolve_left (by have q := Decidable.not_not.mp c_10; rw [q]; decide)
    obtain ⟨S, cN, sa, sl, ch, cp, mj, pa, py, hA, fA, mA, aA, nf, ni, kf, km, hF0, hY0, hP0, hE0, hFO, kq54, kq58, kq61, hkf, kq25, hfk, hkm, kq26, hmk, hNW⟩ := hG.resolve_left (hkn)
    have hn := hF0.1
    refine ml_blk 2 (S' := (15, [(0, .ref m0), (1, .int x1), (2, .int x2), (3, .int x3), (4, .int x4)], [.int x1, .ref m0], M11)) rfl ?_
    have hF23 : FK n f I12 R := (hF0.mono (pIx f15 (by decide)) (fun _ _ => rfl))
    have hY24 : SK S cN sa sl ch I12 R := (hY0.mono (pIx f15 (by decide)) (fun _ _ => rfl))
    have hP25 : PK n f S cp mj pa py I12 R := (hP0.mono (pIx f15 (by decide)) (fun _ _ => rfl))
    have hQ26 : CUO f n co I12 R := (hQ.mono (pIx f15 (by decide)) (fun _ _ => rfl))
    refine ml_call (a := [.ref m0, .int x1]) (rest := []) rfl (hR13.okc rfl rfl rfl) rfl rfl (rm_cuts hR13 ((f15 74 (by decide)).trans (hk74)) ((f15 9 (by decide)).trans (hk9)) hF23 hY24 hP25 hE0 (hx0) (hx8) (h37) (h38) (h40) (hc0) (hl0) (hcl9) (hQ26.of hx0) (by omega)) (fun v27 M28 h29 => ?_)
    obtain ⟨u35, I30, R31, rfl, hR32, hI33, hV34, z36, w37⟩ := h29
    show ml _ _ _ (18, [(0, .ref m0), (1, .int x1), (2, .int x2), (3, .int x3), (4, .int x4)], [.int u35], M28) _
    obtain ⟨hcut, h74, hz⟩ := w37
    have hQ9 : CUO f n x1 I30 R31 := Or.inr hcut
    obtain ⟨ca, cl, wc, mx, mn, hC9, h75, h76, h79, hmn, hkb, hall⟩ := hcut
    refine ml_if (S1 := (33, [], [], M28)) (S2 := (21, [(0, .ref m0), (1, .int x1), (2, .int x2), (3, .int x3), (4, .int x4)], [], M28)) rfl rfl rfl (fun c_18 => ?_) (fun c_18 => ?_)
    · have c_18 : u35 = 0 := of_decide_eq_true c_18
      refine ml_st (S' := (34, [], [.int (-1)], M28)) rfl rfl rfl ?_
      exact ml_ret rfl (rfl) (⟨_, _, _, rfl, hR32, ((eqI.rf.put f15 (by decide)).tr hI33 (by decide)), (eqR.rf.tr hV34 (by decide)), ⟨_, h74, hQ9⟩⟩)
    · have c_18 : ¬ (u35 = 0) := of_decide_eq_false c_18
      refine ml_st (S' := (22, [(0, .ref m0), (1, .int x1), (2, .int x2), (3, .int x3), (4, .int x4)], [.int x2], M28)) rfl rfl rfl ?_
      refine ml_if (S1 := (33, [], [], M28)) (S2 := (25, [(0, .ref m0), (1, .int x1), (2, .int x2), (3, .int x3), (4, .int x4)], [], M28)) rfl rfl rfl (fun c_22 => ?_) (fun c_22 => ?_)
      · have c_22 : x2 < 0 := of_decide_eq_true c_22
        refine ml_st (S' := (34, [], [.int (-1)], M28)) rfl rfl rfl ?_
        exact ml_ret rfl (rfl) (⟨_, _, _, rfl, hR32, ((eqI.rf.put f15 (by decide)).tr hI33 (by decide)), (eqR.rf.tr hV34 (by decide)), ⟨_, h74, hQ9⟩⟩)
      · have c_22 : ¬ (x2 < 0) := of_decide_eq_false c_22
        refine ml_blk 2 (S' := (27, [(0, .ref m0), (1, .int x1), (2, .int x2), (3, .int x3), (4, .int x4)], [.ref m0, .int x2], M28)) rfl ?_
        refine rg_int (S' := (30, [(0, .ref m0), (1, .int x1), (2, .int x2), (3, .int x3), (4, .int x4)], [.int (nI mn), .int x2], M28)) rfl hR32 rfl (h75) rfl ?_
        refine ml_if2 (S1 := (35, [(0, .ref m0), (1, .int x1), (2, .int x2), (3, .int x3), (4, .int x4)], [], M28)) (S2 := (33, [], [], M28)) rfl rfl rfl (fun c_30 => ?_) (fun c_30 => ?_)
        · have c_30 : x2 < (nI mn) := of_decide_eq_true c_30
          have hk0 : 0 ≤ x2.toInt := i_nlt c_22
          have hclB : cl.toInt ≤ n := by have q := hC9.2.2; omega
          have hkl : x2.toInt < mn := by have q := i_lt c_30; rw [nI_val (by omega)] at q; exact q
          obtain ⟨p9, hp9, hins, hai⟩ := hall x2.toNatClampNeg (by show x2.toInt.toNat < mn; omega)
          obtain ⟨w, hw, hwn⟩ := hz.resolve_left c_18
          have hww : some wc = some w := h76.symm.trans hw
          cases hww
          have haim := hai hwn
          have hlt9 := hins.lt
          have hp90 := hins.1
          refine ml_st (S' := (36, [(0, .ref m0), (1, .int x1), (2, .int x2), (3, .int x3), (4, .int x4)], [.ref m0], M28)) rfl rfl rfl ?_
          refine rg_ref (S' := (39, [(0, .ref m0), (1, .int x1), (2, .int x2), (3, .int x3), (4, .int x4)], [.ref (q 80)], M28)) rfl hR32 rfl rfl ?_
          refine ml_st (S' := (40, [(0, .ref m0), (1, .int x1), (2, .int x2), (3, .int x3), (4, .int x4)], [.int x2, .ref (q 80)], M28)) rfl rfl rfl ?_
          refine ra_ld (k := 80) (S' := (41, [(0, .ref m0), (1, .int x1), (2, .int x2), (3, .int x3), (4, .int x4)], [.int p9], M28)) rfl hR32 rfl (vin_lt hk0 (by omega)) (hp9) rfl ?_
          refine ml_st (S' := (43, [(5, .int p9), (0, .ref m0), (1, .int x1), (2, .int x2), (3, .int x3), (4, .int x4)], [], M28)) rfl rfl rfl ?_
          refine ml_blk 2 (S' := (46, [(5, .int p9), (0, .ref m0), (1, .int x1), (2, .int x2), (3, .int x3), (4, .int x4)], [.int p9, .ref m0], M28)) rfl ?_
          have hF38 : FK n f I30 R31 := (hF23.mono (cIx hI33 (by decide)) (cRx hV34 (by decide)))
          refine ml_call (a := [.ref m0, .int p9]) (rest := []) rfl (hR32.okc rfl rfl rfl) rfl rfl (rm_b1 hR32 hF38 hC9 (hins.1) (hlt9) (by omega)) (fun v39 M40 h41 => ?_)
          obtain ⟨rfl, h41⟩ := h41
          rw [h41]
          show ml _ _ _ (49, [(5, .int p9), (0, .ref m0), (1, .int x1), (2, .int x2), (3, .int x3), (4, .int x4)], [.int (f1 f (ca + p9))], M28) _
          refine ml_st (S' := (51, [(6, .int (f1 f (ca + p9))), (5, .int p9), (0, .ref m0), (1, .int x1), (2, .int x2), (3, .int x3), (4, .int x4)], [], M28)) rfl rfl rfl ?_
          refine ml_blk 2 (S' := (56, [(6, .int (f1 f (ca + p9))), (5, .int p9), (0, .ref m0), (1, .int x1), (2, .int x2), (3, .int x3), (4, .int x4)], [.int 170, .int (f1 f (ca + p9))], M28)) rfl ?_
          have J_67 : (f1 f (ca + p9) = 170 ∨ f1 f (ca + p9) = 171) → ml (mT g) d (mb_220 g).2 (67, [(0, .ref m0), (3, .int x3), (4, .int x4), (5, .int p9), (6, .int (f1 f (ca + p9)))], [], M28) (fun v M' => ∃ (x : Int32) (I' : rI) (R' : rR), v = some (.int x) ∧ RS g m0 q z I' R' M' ∧ eqI [0, 74, 75, 76, 77, 78, 79] I I' ∧ eqR [80, 81] R R' ∧ ∃ c : Int32, I' 74 = some c ∧ CUO f n c I' R') := by
            intro hj_67
            refine ml_st (S' := (68, [(0, .ref m0), (3, .int x3), (4, .int x4), (5, .int p9), (6, .int (f1 f (ca + p9)))], [.int x3], M28)) rfl rfl rfl ?_
            refine ml_if (S1 := (81, [], [], M28)) (S2 := (71, [(0, .ref m0), (3, .int x3), (4, .int x4), (5, .int p9), (6, .int (f1 f (ca + p9)))], [], M28)) rfl rfl rfl (fun c_68 => ?_) (fun c_68 => ?_)
            · have c_68 : x3 < 0 := of_decide_eq_true c_68
              refine ml_st (S' := (82, [], [.int (-1)], M28)) rfl rfl rfl ?_
              exact ml_ret rfl (rfl) (⟨_, _, _, rfl, hR32, ((eqI.rf.put f15 (by decide)).tr hI33 (by decide)), (eqR.rf.tr hV34 (by decide)), ⟨_, h74, hQ9⟩⟩)
            · have c_68 : ¬ (x3 < 0) := of_decide_eq_false c_68
              refine ml_blk 3 (S' := (75, [(0, .ref m0), (3, .int x3), (4, .int x4), (5, .int p9), (6, .int (f1 f (ca + p9)))], [.int p9, .ref m0, .int x3], M28)) rfl ?_
              refine ml_call (a := [.ref m0, .int p9]) (rest := [.int x3]) rfl (hR32.okc rfl rfl rfl) rfl rfl (rm_ways hR32 hF38 hC9 (hins.1) (by omega) (hins.sw hj_67) (hj_67) (by omega)) (fun v42 M43 h44 => ?_)
              obtain ⟨rfl, h44⟩ := h44
              rw [h44]
              show ml _ _ _ (78, [(0, .ref m0), (3, .int x3), (4, .int x4), (5, .int p9), (6, .int (f1 f (ca + p9)))], [.int (wyf f ca p9), .int x3], M28) _
              refine ml_if2 (S1 := (83, [(0, .ref m0), (3, .int x3), (4, .int x4), (5, .int p9), (6, .int (f1 f (ca + p9)))], [], M28)) (S2 := (81, [], [], M28)) rfl rfl rfl (fun c_78 => ?_) (fun c_78 => ?_)
              · have c_78 : x3 < (wyf f ca p9) := of_decide_eq_true c_78
                have hi0 : 0 ≤ x3.toInt := i_nlt c_68
                have hiw := i_lt c_78
                have hsw := hins.sw hj_67
                have hwb := waf_b (by omega) hins.1 (by omega) hsw hj_67 hi0 hiw
                have hp := pd_b hins.1 (by omega)
                have hp8 := hsw.p8 hj_67
                have d4 : ((pd p9) + 4).toInt = (pd p9).toInt + 4 := by have e9 : (4 : Int32).toInt = 4 := rfl; rw [i_add (by omega) (by omega), e9]
                refine ml_st (S' := (85, [(0, .ref m0), (3, .int x3), (4, .int x4), (5, .int p9), (6, .int (f1 f (ca + p9)))], [.int x4], M28)) rfl rfl rfl ?_
                refine ml_if (S1 := (108, [(0, .ref m0), (3, .int x3), (4, .int x4), (5, .int p9), (6, .int (f1 f (ca + p9)))], [], M28)) (S2 := (88, [(0, .ref m0), (3, .int x3), (4, .int x4), (5, .int p9), (6, .int (f1 f (ca + p9)))], [], M28)) rfl rfl rfl (fun c_85 => ?_) (fun c_85 => ?_)
                · have c_85 : ¬ x4 = 0 := of_decide_eq_true c_85
                  refine ml_st (S' := (109, [(0, .ref m0), (3, .int x3), (4, .int x4), (5, .int p9), (6, .int (f1 f (ca + p9)))], [.int x3], M28)) rfl rfl rfl ?_
                  refine ml_if (S1 := (114, [(0, .ref m0), (3, .int x3), (4, .int x4), (5, .int p9), (6, .int (f1 f (ca + p9)))], [], M28)) (S2 := (112, [(0, .ref m0), (3, .int x3), (4, .int x4), (5, .int p9), (6, .int (f1 f (ca + p9)))], [], M28)) rfl rfl rfl (fun c_109 => ?_) (fun c_109 => ?_)
                  · have c_109 : ¬ x3 = 0 := of_decide_eq_true c_109
                    refine ml_blk 2 (S' := (119, [(0, .ref m0), (3, .int x3), (4, .int x4), (5, .int p9), (6, .int (f1 f (ca + p9)))], [.int 170, .int (f1 f (ca + p9))], M28)) rfl ?_
                    refine ml_if2 (S1 := (140, [(0, .ref m0), (3, .int x3), (4, .int x4), (5, .int p9), (6, .int (f1 f (ca + p9)))], [], M28)) (S2 := (122, [(0, .ref m0), (3, .int x3), (4, .int x4), (5, .int p9), (6, .int (f1 f (ca + p9)))], [], M28)) rfl rfl rfl (fun c_119 => ?_) (fun c_119 => ?_)
                    · have c_119 : ¬ (f1 f (ca + p9)) = 170 := of_decide_eq_true c_119
                      have e71 : f1 f (ca + p9) = 171 := hj_67.resolve_left c_119
                      obtain ⟨s1, s2, s3⟩ := hsw.2 e71
                      have hwv := (wyf_v (by omega) hins.1 (by omega) hsw).2 e71
                      have m8 := mul_k (k := 8) (x := x3) (a := 8) rfl (by omega) (by omega) hi0 (by omega)
                      have a2 : (pd p9 + 8 * x3).toInt = (pd p9).toInt + 8 * x3.toInt := by rw [i_add (by omega) (by omega), m8]
                      refine ml_blk 2 (S' := (143, [(0, .ref m0), (3, .int x3), (4, .int x4), (5, .int p9), (6, .int (f1 f (ca + p9)))], [.int p9, .ref m0], M28)) rfl ?_
                      refine ml_call (a := [.int p9]) (rest := [.ref m0]) rfl (rfl) rfl rfl (rm_pad hR32 (by omega)) (fun v45 M46 h47 => ?_)
                      obtain ⟨rfl, h47⟩ := h47
                      rw [h47]
                      show ml _ _ _ (146, [(0, .ref m0), (3, .int x3), (4, .int x4), (5, .int p9), (6, .int (f1 f (ca + p9)))], [.int (pd p9), .ref m0], M28) _
                      refine ml_blk 3 (S' := (150, [(0, .ref m0), (3, .int x3), (4, .int x4), (5, .int p9), (6, .int (f1 f (ca + p9)))], [.int (8 * x3), .int (pd p9), .ref m0], M28)) rfl ?_
                      refine ml_st (S' := (151, [(0, .ref m0), (3, .int x3), (4, .int x4), (5, .int p9), (6, .int (f1 f (ca + p9)))], [.int ((pd p9) + (8 * x3)), .ref m0], M28)) rfl rfl rfl ?_
                      refine ml_call (a := [.ref m0, .int ((pd p9) + (8 * x3))]) (rest := []) rfl (hR32.okc rfl rfl rfl) rfl rfl (rm_b4 hR32 hF38 hC9 (by omega) (by omega) (by omega)) (fun v48 M49 h50 => ?_)
                      obtain ⟨rfl, h50⟩ := h50
                      rw [h50]
                      show ml _ _ _ (154, [], [.int (B4 f ca ((pd p9) + (8 * x3)))], M28) _
                      exact ml_ret rfl (rfl) (⟨_, _, _, rfl, hR32, ((eqI.rf.put f15 (by decide)).tr hI33 (by decide)), (eqR.rf.tr hV34 (by decide)), ⟨_, h74, hQ9⟩⟩)
                    · have c_119 : ¬ (¬ (f1 f (ca + p9)) = 170) := of_decide_eq_false c_119
                      refine ml_blk 2 (S' := (125, [(0, .ref m0), (3, .int x3), (4, .int x4), (5, .int p9), (6, .int (f1 f (ca + p9)))], [.int p9, .ref m0], M28)) rfl ?_
                      refine ml_call (a := [.int p9]) (rest := [.ref m0]) rfl (rfl) rfl rfl (rm_pad hR32 (by omega)) (fun v51 M52 h53 => ?_)
                      obtain ⟨rfl, h53⟩ := h53
                      rw [h53]
                      show ml _ _ _ (128, [(0, .ref m0), (3, .int x3), (4, .int x4), (5, .int p9), (6, .int (f1 f (ca + p9)))], [.int (pd p9), .ref m0], M28) _
                      refine ml_blk 2 (S' := (130, [(0, .ref m0), (3, .int x3), (4, .int x4), (5, .int p9), (6, .int (f1 f (ca + p9)))], [.int ((pd p9) + 4), .ref m0], M28)) rfl ?_
                      refine ml_call (a := [.ref m0, .int ((pd p9) + 4)]) (rest := []) rfl (hR32.okc rfl rfl rfl) rfl rfl (rm_b4 hR32 hF38 hC9 (by omega) (by omega) (by omega)) (fun v54 M55 h56 => ?_)
                      obtain ⟨rfl, h56⟩ := h56
                      rw [h56]
                      show ml _ _ _ (133, [(0, .ref m0), (3, .int x3), (4, .int x4), (5, .int p9), (6, .int (f1 f (ca + p9)))], [.int (B4 f ca ((pd p9) + 4))], M28) _
                      refine ml_blk 3 (S' := (136, [(0, .ref m0), (3, .int x3), (4, .int x4), (5, .int p9), (6, .int (f1 f (ca + p9)))], [.int 1, .int ((B4 f ca ((pd p9) + 4)) + x3)], M28)) rfl ?_
                      refine ml_st (S' := (137, [(0, .ref m0), (3, .int x3), (4, .int x4), (5, .int p9), (6, .int (f1 f (ca + p9)))], [.int (((B4 f ca ((pd p9) + 4)) + x3) - 1)], M28)) rfl rfl rfl ?_
                      refine ml_st (S' := (154, [], [.int (((B4 f ca ((pd p9) + 4)) + x3) - 1)], M28)) rfl rfl rfl ?_
                      exact ml_ret rfl (rfl) (⟨_, _, _, rfl, hR32, ((eqI.rf.put f15 (by decide)).tr hI33 (by decide)), (eqR.rf.tr hV34 (by decide)), ⟨_, h74, hQ9⟩⟩)
                  · have c_109 : ¬ (¬ x3 = 0) := of_decide_eq_false c_109
                    refine ml_st (S' := (113, [(0, .ref m0), (3, .int x3), (4, .int x4), (5, .int p9), (6, .int (f1 f (ca + p9)))], [.int 0], M28)) rfl rfl rfl ?_
                    exact ml_ret rfl (rfl) (⟨_, _, _, rfl, hR32, ((eqI.rf.put f15 (by decide)).tr hI33 (by decide)), (eqR.rf.tr hV34 (by decide)), ⟨_, h74, hQ9⟩⟩)
                · have c_85 : ¬ (¬ x4 = 0) := of_decide_eq_false c_85
                  refine ml_st (S' := (89, [(0, .ref m0), (3, .int x3), (4, .int x4), (5, .int p9), (6, .int (f1 f (ca + p9)))], [.ref m0], M28)) rfl rfl rfl ?_
                  refine rg_ref (S' := (92, [(0, .ref m0), (3, .int x3), (4, .int x4), (5, .int p9), (6, .int (f1 f (ca + p9)))], [.ref (q 81)], M28)) rfl hR32 rfl rfl ?_
                  refine ml_blk 3 (S' := (96, [(0, .ref m0), (3, .int x3), (4, .int x4), (5, .int p9), (6, .int (f1 f (ca + p9)))], [.ref m0, .ref m0, .int p9, .ref (q 81)], M28)) rfl ?_
                  refine ml_blk 2 (S' := (99, [(0, .ref m0), (3, .int x3), (4, .int x4), (5, .int p9), (6, .int (f1 f (ca + p9)))], [.int x3, .int p9, .ref m0, .ref m0, .int p9, .ref (q 81)], M28)) rfl ?_
                  refine ml_call (a := [.ref m0, .int p9, .int x3]) (rest := [.ref m0, .int p9, .ref (q 81)]) rfl (hR32.okc rfl rfl rfl) rfl rfl (rm_wayAt hR32 hF38 hC9 (hins.1) (by omega) (by omega)) (fun v57 M58 h59 => ?_)
                  obtain ⟨rfl, h59⟩ := h59
                  rw [h59]
                  show ml _ _ _ (102, [(0, .ref m0), (3, .int x3), (4, .int x4), (5, .int p9), (6, .int (f1 f (ca + p9)))], [.int (waf f ca p9 x3), .ref m0, .int p9, .ref (q 81)], M28) _
                  refine ml_call (a := [.ref m0, .int (waf f ca p9 x3)]) (rest := [.int p9, .ref (q 81)]) rfl (hR32.okc rfl rfl rfl) rfl rfl (rm_b4 hR32 hF38 hC9 (hwb.1) (hwb.2) (by omega)) (fun v60 M61 h62 => ?_)
                  obtain ⟨rfl, h62⟩ := h62
                  rw [h62]
                  show ml _ _ _ (105, [(0, .ref m0), (3, .int x3), (4, .int x4), (5, .int p9), (6, .int (f1 f (ca + p9)))], [.int (B4 f ca (waf f ca p9 x3)), .int p9, .ref (q 81)], M28) _
                  refine ml_st (S' := (106, [(0, .ref m0), (3, .int x3), (4, .int x4), (5, .int p9), (6, .int (f1 f (ca + p9)))], [.int (p9 + (B4 f ca (waf f ca p9 x3))), .ref (q 81)], M28)) rfl rfl rfl ?_
                  have hq := haim.2.2 hj_67 x3 hi0 hiw
                  obtain ⟨v9, hv9⟩ := hkb (p9 + B4 f ca (waf f ca p9 x3)).toNatClampNeg (by show (p9 + B4 f ca (waf f ca p9 x3)).toInt.toNat < _; omega)
                  refine ra_ld (k := 81) (S' := (107, [(0, .ref m0), (3, .int x3), (4, .int x4), (5, .int p9), (6, .int (f1 f (ca + p9)))], [.int v9], M28)) rfl hR32 rfl (vin_lt hq.1 (by omega)) (hv9) rfl ?_
                  exact ml_ret rfl (rfl) (⟨_, _, _, rfl, hR32, ((eqI.rf.put f15 (by decide)).tr hI33 (by decide)), (eqR.rf.tr hV34 (by decide)), ⟨_, h74, hQ9⟩⟩)
              · have c_78 : ¬ (x3 < (wyf f ca p9)) := of_decide_eq_false c_78
                refine ml_st (S' := (82, [], [.int (-1)], M28)) rfl rfl rfl ?_
                exact ml_ret rfl (rfl) (⟨_, _, _, rfl, hR32, ((eqI.rf.put f15 (by decide)).tr hI33 (by decide)), (eqR.rf.tr hV34 (by decide)), ⟨_, h74, hQ9⟩⟩)
          refine ml_if2 (S1 := (67, [(0, .ref m0), (3, .int x3), (4, .int x4), (5, .int p9), (6, .int (f1 f (ca + p9)))], [], M28)) (S2 := (59, [(6, .int (f1 f (ca + p9))), (5, .int p9), (0, .ref m0), (1, .int x1), (2, .int x2), (3, .int x3), (4, .int x4)], [], M28)) rfl rfl rfl (fun c_56 => ?_) (fun c_56 => ?_)
          · have c_56 : (f1 f (ca + p9)) = 170 := of_decide_eq_true c_56
            exact J_67  (Or.inl c_56)
          · have c_56 : ¬ ((f1 f (ca + p9)) = 170) := of_decide_eq_false c_56
            refine ml_blk 2 (S' := (64, [(6, .int (f1 f (ca + p9))), (5, .int p9), (0, .ref m0), (1, .int x1), (2, .int x2), (3, .int x3), (4, .int x4)], [.int 171, .int (f1 f (ca + p9))], M28)) rfl ?_
            refine ml_if2 (S1 := (81, [], [], M28)) (S2 := (67, [(0, .ref m0), (3, .int x3), (4, .int x4), (5, .int p9), (6, .int (f1 f (ca + p9)))], [], M28)) rfl rfl rfl (fun c_64 => ?_) (fun c_64 => ?_)
            · have c_64 : ¬ (f1 f (ca + p9)) = 171 := of_decide_eq_true c_64
              refine ml_st (S' := (82, [], [.int (-1)], M28)) rfl rfl rfl ?_
              exact ml_ret rfl (rfl) (⟨_, _, _, rfl, hR32, ((eqI.rf.put f15 (by decide)).tr hI33 (by decide)), (eqR.rf.tr hV34 (by decide)), ⟨_, h74, hQ9⟩⟩)
            · have c_64 : ¬ (¬ (f1 f (ca + p9)) = 171) := of_decide_eq_false c_64
              exact J_67  (Or.inr (Decidable.not_not.mp c_64))
        · have c_30 : ¬ (x2 < (nI mn)) := of_decide_eq_false c_30
          refine ml_st (S' := (34, [], [.int (-1)], M28)) rfl rfl rfl ?_
          exact ml_ret rfl (rfl) (⟨_, _, _, rfl, hR32, ((eqI.rf.put f15 (by decide)).tr hI33 (by decide)), (eqR.rf.tr hV34 (by decide)), ⟨_, h74, hQ9⟩⟩)
