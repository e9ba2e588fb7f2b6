section
/-! the reference: operands (laid by wip/p2/c76.py) -/
set_option maxHeartbeats 2000000 in
theorem rm_operands {g : xe_G}  {m0 : Nat} {q : Nat → Nat} {z : Nat × Nat} {I : rI} {R : rR} {M : mi_H} {x1 x2 si mx : Int32} {n : Nat} {f : Nat → Int32} {S cN : Nat} {sa sl ch : Nat → Int32} {cp mj : Int32} {pa py : Nat → Int32} {ca cl : Int32} {nn : Int}  (hR : RS g m0 q z I R M) (hk9 : I 9 = some si) (hk79 : I 79 = some mx) (hF : FK n f I R) (hY : SK S cN sa sl ch I R) (hP : PK n f S cp mj pa py I R) (hE : EK f cp pa py sa sl ch) (hC : CK n ca cl I R) (h0 : 0 ≤ x1.toInt) (hln : ILN x2 nn) (hN : x1.toInt + nn ≤ cl.toInt) {d : Nat} (hd : 5 ≤ d) : mt (mT g) d 228 [.ref m0, .int x1, .int x2] M (fun v M' => (∃ x : Int32, v = some (.int x) ∧ (x = 0 ∨ x = 1)) ∧ M' = M) := by
  obtain ⟨d, rfl⟩ : ∃ e, d = e + 1 := ⟨d - 1, by omega⟩
  refine mt_in (b := mb_228 g) rfl rfl ?_
  show ml (mT g) d (mb_228 g).2 (0, [(0, .ref m0), (1, .int x1), (2, .int x2)], [], M) _
  have hn := hF.1
  obtain ⟨hca, hcl, hcn⟩ := hC.2.2
  have hnb : 1 ≤ nn := iln 1 hln 0 201 hln.1 hln.2.1 mlk_1_0_201
  have d1 : (x1 + 1).toInt = x1.toInt + 1 := by have e9 : (1 : Int32).toInt = 1 := rfl; rw [i_add (by omega) (by omega), e9]
  have d2 : (x1 + 2).toInt = x1.toInt + 2 := by have e9 : (2 : Int32).toInt = 2 := rfl; rw [i_add (by omega) (by omega), e9]
  have d3 : (x1 + 3).toInt = x1.toInt + 3 := by have e9 : (3 : Int32).toInt = 3 := rfl; rw [i_add (by omega) (by omega), e9]
  have d4 : (x1 + 4).toInt = x1.toInt + 4 := by have e9 : (4 : Int32).toInt = 4 := rfl; rw [i_add (by omega) (by omega), e9]
  refine ml_blk 2 (S' := (4, [(0, .ref m0), (1, .int x1), (2, .int x2)], [.int 168, .int x2], M)) rfl ?_
  have J_21 : ml (mT g) d (mb_228 g).2 (21, [(0, .ref m0), (1, .int x1), (2, .int x2)], [], M) (fun v M' => (∃ x : Int32, v = some (.int x) ∧ (x = 0 ∨ x = 1)) ∧ M' = M) := by
    refine ml_st (S' := (22, [(0, .ref m0), (1, .int x1), (2, .int x2)], [.ref m0], M)) rfl rfl rfl ?_
    refine rg_int (S' := (25, [(0, .ref m0), (1, .int x1), (2, .int x2)], [.int mj], M)) rfl hR rfl (hP.2.2.1) rfl ?_
    refine ml_st (S' := (27, [(0, .ref m0), (1, .int x1), (2, .int x2)], [.int 51, .int mj], M)) rfl rfl rfl ?_
    refine ml_if2 (S1 := (56, [], [], M)) (S2 := (30, [(0, .ref m0), (1, .int x1), (2, .int x2)], [], M)) rfl rfl rfl (fun c_27 => ?_) (fun c_27 => ?_)
    · have c_27 : 51 ≤ mj := of_decide_eq_true c_27
      refine ml_st (S' := (57, [], [.int 0], M)) rfl rfl rfl ?_
      exact ml_ret rfl (r_z (Or.inl rfl)) (⟨⟨_, rfl, Or.inl rfl⟩, rfl⟩)
    · have c_27 : ¬ (51 ≤ mj) := of_decide_eq_false c_27
      refine ml_blk 2 (S' := (34, [(0, .ref m0), (1, .int x1), (2, .int x2)], [.int 169, .int x2], M)) rfl ?_
      refine ml_if2 (S1 := (52, [], [], M)) (S2 := (37, [(0, .ref m0), (1, .int x1), (2, .int x2)], [], M)) rfl rfl rfl (fun c_34 => ?_) (fun c_34 => ?_)
      · have c_34 : ¬ x2 = 169 := of_decide_eq_true c_34
        refine ml_st (S' := (53, [], [.int 1], M)) rfl rfl rfl ?_
        refine ml_st (S' := (57, [], [.int 1], M)) rfl rfl rfl ?_
        exact ml_ret rfl (r_z (Or.inr rfl)) (⟨⟨_, rfl, Or.inr rfl⟩, rfl⟩)
      · have c_34 : ¬ (¬ x2 = 169) := of_decide_eq_false c_34
        have h2 : (2 : Int) ≤ nn := iln 2 hln 169 169 (by rw [show _ = (169 : Int32) from Decidable.not_not.mp c_34]; decide) (by rw [show _ = (169 : Int32) from Decidable.not_not.mp c_34]; decide) mlk_2_169_169
        refine ml_blk 3 (S' := (40, [(0, .ref m0), (1, .int x1), (2, .int x2)], [.int x1, .ref m0, .ref m0], M)) rfl ?_
        refine ml_blk 2 (S' := (42, [(0, .ref m0), (1, .int x1), (2, .int x2)], [.int (x1 + 1), .ref m0, .ref m0], M)) rfl ?_
        refine ml_call (a := [.ref m0, .int (x1 + 1)]) (rest := [.ref m0]) rfl (hR.okc rfl rfl rfl) rfl rfl (rm_b1 hR hF hC (by omega) (by omega) (by omega)) (fun v11 M12 h13 => ?_)
        obtain ⟨rfl, h13⟩ := h13
        rw [h13]
        show ml _ _ _ (45, [(0, .ref m0), (1, .int x1), (2, .int x2)], [.int (f1 f (ca + (x1 + 1))), .ref m0], M) _
        refine ml_st (S' := (46, [(0, .ref m0), (1, .int x1), (2, .int x2)], [.int 1, .int (f1 f (ca + (x1 + 1))), .ref m0], M)) rfl rfl rfl ?_
        refine ml_call (a := [.ref m0, .int (f1 f (ca + (x1 + 1))), .int 1]) (rest := []) rfl (hR.okc rfl rfl rfl) rfl rfl (rm_local hR (hk79) (by omega)) (fun v14 M15 h16 => ?_)
        obtain ⟨⟨u17, rfl, z18⟩, h16⟩ := h16
        rw [h16]
        show ml _ _ _ (49, [(0, .ref m0), (1, .int x1), (2, .int x2)], [.int u17], M) _
        refine ml_if (S1 := (56, [], [], M)) (S2 := (52, [], [], M)) rfl rfl rfl (fun c_49 => ?_) (fun c_49 => ?_)
        · have c_49 : u17 = 0 := of_decide_eq_true c_49
          refine ml_st (S' := (57, [], [.int 0], M)) rfl rfl rfl ?_
          exact ml_ret rfl (r_z (Or.inl rfl)) (⟨⟨_, rfl, Or.inl rfl⟩, rfl⟩)
        · have c_49 : ¬ (u17 = 0) := of_decide_eq_false c_49
          refine ml_st (S' := (53, [], [.int 1], M)) rfl rfl rfl ?_
          refine ml_st (S' := (57, [], [.int 1], M)) rfl rfl rfl ?_
          exact ml_ret rfl (r_z (Or.inr rfl)) (⟨⟨_, rfl, Or.inr rfl⟩, rfl⟩)
  refine ml_if2 (S1 := (21, [(0, .ref m0), (1, .int x1), (2, .int x2)], [], M)) (S2 := (7, [(0, .ref m0), (1, .int x1), (2, .int x2)], [], M)) rfl rfl rfl (fun c_4 => ?_) (fun c_4 => ?_)
  · have c_4 : x2 = 168 := of_decide_eq_true c_4
    exact J_21 
  · have c_4 : ¬ (x2 = 168) := of_decide_eq_false c_4
    refine ml_blk 2 (S' := (11, [(0, .ref m0), (1, .int x1), (2, .int x2)], [.int 169, .int x2], M)) rfl ?_
    refine ml_if2 (S1 := (21, [(0, .ref m0), (1, .int x1), (2, .int x2)], [], M)) (S2 := (14, [(0, .ref m0), (1, .int x1), (2, .int x2)], [], M)) rfl rfl rfl (fun c_11 => ?_) (fun c_11 => ?_)
    · have c_11 : x2 = 169 := of_decide_eq_true c_11
      exact J_21 
    · have c_11 : ¬ (x2 = 169) := of_decide_eq_false c_11
      refine ml_blk 2 (S' := (18, [(0, .ref m0), (1, .int x1), (2, .int x2)], [.int 201, .int x2], M)) rfl ?_
      refine ml_if2 (S1 := (58, [(0, .ref m0), (1, .int x1), (2, .int x2)], [], M)) (S2 := (21, [(0, .ref m0), (1, .int x1), (2, .int x2)], [], M)) rfl rfl rfl (fun c_18 => ?_) (fun c_18 => ?_)
      · have c_18 : ¬ x2 = 201 := of_decide_eq_true c_18
        refine ml_blk 2 (S' := (61, [(0, .ref m0), (1, .int x1), (2, .int x2)], [.int 21, .int x2], M)) rfl ?_
        have J_82 : ((2 : Int) ≤ nn) → ml (mT g) d (mb_228 g).2 (82, [(0, .ref m0), (1, .int x1), (2, .int x2)], [], M) (fun v M' => (∃ x : Int32, v = some (.int x) ∧ (x = 0 ∨ x = 1)) ∧ M' = M) := by
          intro hj_82
          refine ml_blk 2 (S' := (85, [(0, .ref m0), (1, .int x1), (2, .int x2)], [.int 54, .int x2], M)) rfl ?_
          refine ml_if2 (S1 := (95, [(0, .ref m0), (1, .int x1), (2, .int x2)], [], M)) (S2 := (88, [(0, .ref m0), (1, .int x1), (2, .int x2)], [], M)) rfl rfl rfl (fun c_85 => ?_) (fun c_85 => ?_)
          · have c_85 : x2 < 54 := of_decide_eq_true c_85
            refine ml_blk 3 (S' := (99, [(0, .ref m0), (1, .int x1)], [.int (x2 - 21)], M)) rfl ?_
            refine ml_st (S' := (100, [(3, .int (x2 - 21)), (0, .ref m0), (1, .int x1)], [], M)) rfl rfl rfl ?_
            refine ml_blk 3 (S' := (103, [(3, .int (x2 - 21)), (0, .ref m0), (1, .int x1)], [.int x1, .ref m0, .ref m0], M)) rfl ?_
            refine ml_blk 2 (S' := (105, [(3, .int (x2 - 21)), (0, .ref m0), (1, .int x1)], [.int (x1 + 1), .ref m0, .ref m0], M)) rfl ?_
            refine ml_call (a := [.ref m0, .int (x1 + 1)]) (rest := [.ref m0]) rfl (hR.okc rfl rfl rfl) rfl rfl (rm_b1 hR hF hC (by omega) (by omega) (by omega)) (fun v19 M20 h21 => ?_)
            obtain ⟨rfl, h21⟩ := h21
            rw [h21]
            show ml _ _ _ (108, [(3, .int (x2 - 21)), (0, .ref m0), (1, .int x1)], [.int (f1 f (ca + (x1 + 1))), .ref m0], M) _
            refine ml_blk 2 (S' := (110, [(3, .int (x2 - 21)), (0, .ref m0), (1, .int x1)], [.int 1, .int (x2 - 21), .int (f1 f (ca + (x1 + 1))), .ref m0], M)) rfl ?_
            refine ml_if2 (S1 := (118, [], [.int (f1 f (ca + (x1 + 1))), .ref m0], M)) (S2 := (113, [(3, .int (x2 - 21)), (0, .ref m0), (1, .int x1)], [.int (f1 f (ca + (x1 + 1))), .ref m0], M)) rfl rfl rfl (fun c_110 => ?_) (fun c_110 => ?_)
            · have c_110 : (x2 - 21) = 1 := of_decide_eq_true c_110
              refine ml_st (S' := (119, [], [.int 2, .int (f1 f (ca + (x1 + 1))), .ref m0], M)) rfl rfl rfl ?_
              refine ml_st (S' := (123, [], [.int 2, .int (f1 f (ca + (x1 + 1))), .ref m0], M)) rfl rfl rfl ?_
              refine ml_call (a := [.ref m0, .int (f1 f (ca + (x1 + 1))), .int 2]) (rest := []) rfl (hR.okc rfl rfl rfl) rfl rfl (rm_local hR (hk79) (by omega)) (fun v22 M23 h24 => ?_)
              obtain ⟨⟨u25, rfl, z26⟩, h24⟩ := h24
              rw [h24]
              show ml _ _ _ (126, [], [.int u25], M) _
              exact ml_ret rfl (r_z (z26)) (⟨⟨_, rfl, z26⟩, rfl⟩)
            · have c_110 : ¬ ((x2 - 21) = 1) := of_decide_eq_false c_110
              refine ml_blk 2 (S' := (115, [(3, .int (x2 - 21)), (0, .ref m0), (1, .int x1)], [.int 3, .int (x2 - 21), .int (f1 f (ca + (x1 + 1))), .ref m0], M)) rfl ?_
              refine ml_if2 (S1 := (122, [(3, .int (x2 - 21)), (0, .ref m0), (1, .int x1)], [.int (f1 f (ca + (x1 + 1))), .ref m0], M)) (S2 := (118, [], [.int (f1 f (ca + (x1 + 1))), .ref m0], M)) rfl rfl rfl (fun c_115 => ?_) (fun c_115 => ?_)
              · have c_115 : ¬ (x2 - 21) = 3 := of_decide_eq_true c_115
                refine ml_st (S' := (123, [], [.int 1, .int (f1 f (ca + (x1 + 1))), .ref m0], M)) rfl rfl rfl ?_
                refine ml_call (a := [.ref m0, .int (f1 f (ca + (x1 + 1))), .int 1]) (rest := []) rfl (hR.okc rfl rfl rfl) rfl rfl (rm_local hR (hk79) (by omega)) (fun v27 M28 h29 => ?_)
                obtain ⟨⟨u30, rfl, z31⟩, h29⟩ := h29
                rw [h29]
                show ml _ _ _ (126, [], [.int u30], M) _
                exact ml_ret rfl (r_z (z31)) (⟨⟨_, rfl, z31⟩, rfl⟩)
              · have c_115 : ¬ (¬ (x2 - 21) = 3) := of_decide_eq_false c_115
                refine ml_st (S' := (119, [], [.int 2, .int (f1 f (ca + (x1 + 1))), .ref m0], M)) rfl rfl rfl ?_
                refine ml_st (S' := (123, [], [.int 2, .int (f1 f (ca + (x1 + 1))), .ref m0], M)) rfl rfl rfl ?_
                refine ml_call (a := [.ref m0, .int (f1 f (ca + (x1 + 1))), .int 2]) (rest := []) rfl (hR.okc rfl rfl rfl) rfl rfl (rm_local hR (hk79) (by omega)) (fun v32 M33 h34 => ?_)
                obtain ⟨⟨u35, rfl, z36⟩, h34⟩ := h34
                rw [h34]
                show ml _ _ _ (126, [], [.int u35], M) _
                exact ml_ret rfl (r_z (z36)) (⟨⟨_, rfl, z36⟩, rfl⟩)
          · have c_85 : ¬ (x2 < 54) := of_decide_eq_false c_85
            refine ml_blk 3 (S' := (92, [(0, .ref m0), (1, .int x1), (2, .int x2)], [.int (x2 - 54)], M)) rfl ?_
            refine ml_st (S' := (99, [(0, .ref m0), (1, .int x1)], [.int (x2 - 54)], M)) rfl rfl rfl ?_
            refine ml_st (S' := (100, [(3, .int (x2 - 54)), (0, .ref m0), (1, .int x1)], [], M)) rfl rfl rfl ?_
            refine ml_blk 3 (S' := (103, [(3, .int (x2 - 54)), (0, .ref m0), (1, .int x1)], [.int x1, .ref m0, .ref m0], M)) rfl ?_
            refine ml_blk 2 (S' := (105, [(3, .int (x2 - 54)), (0, .ref m0), (1, .int x1)], [.int (x1 + 1), .ref m0, .ref m0], M)) rfl ?_
            refine ml_call (a := [.ref m0, .int (x1 + 1)]) (rest := [.ref m0]) rfl (hR.okc rfl rfl rfl) rfl rfl (rm_b1 hR hF hC (by omega) (by omega) (by omega)) (fun v37 M38 h39 => ?_)
            obtain ⟨rfl, h39⟩ := h39
            rw [h39]
            show ml _ _ _ (108, [(3, .int (x2 - 54)), (0, .ref m0), (1, .int x1)], [.int (f1 f (ca + (x1 + 1))), .ref m0], M) _
            refine ml_blk 2 (S' := (110, [(3, .int (x2 - 54)), (0, .ref m0), (1, .int x1)], [.int 1, .int (x2 - 54), .int (f1 f (ca + (x1 + 1))), .ref m0], M)) rfl ?_
            refine ml_if2 (S1 := (118, [], [.int (f1 f (ca + (x1 + 1))), .ref m0], M)) (S2 := (113, [(3, .int (x2 - 54)), (0, .ref m0), (1, .int x1)], [.int (f1 f (ca + (x1 + 1))), .ref m0], M)) rfl rfl rfl (fun c_110 => ?_) (fun c_110 => ?_)
            · have c_110 : (x2 - 54) = 1 := of_decide_eq_true c_110
              refine ml_st (S' := (119, [], [.int 2, .int (f1 f (ca + (x1 + 1))), .ref m0], M)) rfl rfl rfl ?_
              refine ml_st (S' := (123, [], [.int 2, .int (f1 f (ca + (x1 + 1))), .ref m0], M)) rfl rfl rfl ?_
              refine ml_call (a := [.ref m0, .int (f1 f (ca + (x1 + 1))), .int 2]) (rest := []) rfl (hR.okc rfl rfl rfl) rfl rfl (rm_local hR (hk79) (by omega)) (fun v40 M41 h42 => ?_)
              obtain ⟨⟨u43, rfl, z44⟩, h42⟩ := h42
              rw [h42]
              show ml _ _ _ (126, [], [.int u43], M) _
              exact ml_ret rfl (r_z (z44)) (⟨⟨_, rfl, z44⟩, rfl⟩)
            · have c_110 : ¬ ((x2 - 54) = 1) := of_decide_eq_false c_110
              refine ml_blk 2 (S' := (115, [(3, .int (x2 - 54)), (0, .ref m0), (1, .int x1)], [.int 3, .int (x2 - 54), .int (f1 f (ca + (x1 + 1))), .ref m0], M)) rfl ?_
              refine ml_if2 (S1 := (122, [(3, .int (x2 - 54)), (0, .ref m0), (1, .int x1)], [.int (f1 f (ca + (x1 + 1))), .ref m0], M)) (S2 := (118, [], [.int (f1 f (ca + (x1 + 1))), .ref m0], M)) rfl rfl rfl (fun c_115 => ?_) (fun c_115 => ?_)
              · have c_115 : ¬ (x2 - 54) = 3 := of_decide_eq_true c_115
                refine ml_st (S' := (123, [], [.int 1, .int (f1 f (ca + (x1 + 1))), .ref m0], M)) rfl rfl rfl ?_
                refine ml_call (a := [.ref m0, .int (f1 f (ca + (x1 + 1))), .int 1]) (rest := []) rfl (hR.okc rfl rfl rfl) rfl rfl (rm_local hR (hk79) (by omega)) (fun v45 M46 h47 => ?_)
                obtain ⟨⟨u48, rfl, z49⟩, h47⟩ := h47
                rw [h47]
                show ml _ _ _ (126, [], [.int u48], M) _
                exact ml_ret rfl (r_z (z49)) (⟨⟨_, rfl, z49⟩, rfl⟩)
              · have c_115 : ¬ (¬ (x2 - 54) = 3) := of_decide_eq_false c_115
                refine ml_st (S' := (119, [], [.int 2, .int (f1 f (ca + (x1 + 1))), .ref m0], M)) rfl rfl rfl ?_
                refine ml_st (S' := (123, [], [.int 2, .int (f1 f (ca + (x1 + 1))), .ref m0], M)) rfl rfl rfl ?_
                refine ml_call (a := [.ref m0, .int (f1 f (ca + (x1 + 1))), .int 2]) (rest := []) rfl (hR.okc rfl rfl rfl) rfl rfl (rm_local hR (hk79) (by omega)) (fun v50 M51 h52 => ?_)
                obtain ⟨⟨u53, rfl, z54⟩, h52⟩ := h52
                rw [h52]
                show ml _ _ _ (126, [], [.int u53], M) _
                exact ml_ret rfl (r_z (z54)) (⟨⟨_, rfl, z54⟩, rfl⟩)
        have J_70 : ml (mT g) d (mb_228 g).2 (70, [(0, .ref m0), (1, .int x1), (2, .int x2)], [], M) (fun v M' => (∃ x : Int32, v = some (.int x) ∧ (x = 0 ∨ x = 1)) ∧ M' = M) := by
          refine ml_blk 2 (S' := (73, [(0, .ref m0), (1, .int x1), (2, .int x2)], [.int 54, .int x2], M)) rfl ?_
          have J_127 : ml (mT g) d (mb_228 g).2 (127, [(0, .ref m0), (1, .int x1), (2, .int x2)], [], M) (fun v M' => (∃ x : Int32, v = some (.int x) ∧ (x = 0 ∨ x = 1)) ∧ M' = M) := by
            refine ml_blk 2 (S' := (130, [(0, .ref m0), (1, .int x1), (2, .int x2)], [.int 26, .int x2], M)) rfl ?_
            have J_151 : ml (mT g) d (mb_228 g).2 (151, [(0, .ref m0), (2, .int x2)], [], M) (fun v M' => (∃ x : Int32, v = some (.int x) ∧ (x = 0 ∨ x = 1)) ∧ M' = M) := by
              refine ml_blk 2 (S' := (154, [(0, .ref m0), (2, .int x2)], [.int 59, .int x2], M)) rfl ?_
              refine ml_if2 (S1 := (164, [(0, .ref m0), (2, .int x2)], [], M)) (S2 := (157, [(0, .ref m0), (2, .int x2)], [], M)) rfl rfl rfl (fun c_154 => ?_) (fun c_154 => ?_)
              · have c_154 : x2 < 59 := of_decide_eq_true c_154
                refine ml_blk 3 (S' := (168, [(0, .ref m0)], [.int (x2 - 26)], M)) rfl ?_
                refine ml_st (S' := (169, [(3, .int (x2 - 26)), (0, .ref m0)], [], M)) rfl rfl rfl ?_
                refine ml_blk 3 (S' := (172, [(3, .int (x2 - 26)), (0, .ref m0)], [.int 4, .int (x2 - 26), .ref m0], M)) rfl ?_
                refine ml_blk 3 (S' := (175, [(3, .int (x2 - 26)), (0, .ref m0)], [.int 4, .int (x2 - 26), .int ((x2 - 26) - (x2 - 26) / 4 * 4), .ref m0], M)) rfl ?_
                refine ml_blk 2 (S' := (177, [(3, .int (x2 - 26)), (0, .ref m0)], [.int 1, .int ((x2 - 26) / 4), .int ((x2 - 26) - (x2 - 26) / 4 * 4), .ref m0], M)) rfl ?_
                refine ml_if2 (S1 := (187, [], [.int ((x2 - 26) - (x2 - 26) / 4 * 4), .ref m0], M)) (S2 := (180, [(3, .int (x2 - 26)), (0, .ref m0)], [.int ((x2 - 26) - (x2 - 26) / 4 * 4), .ref m0], M)) rfl rfl rfl (fun c_177 => ?_) (fun c_177 => ?_)
                · have c_177 : ((x2 - 26) / 4) = 1 := of_decide_eq_true c_177
                  refine ml_st (S' := (188, [], [.int 2, .int ((x2 - 26) - (x2 - 26) / 4 * 4), .ref m0], M)) rfl rfl rfl ?_
                  refine ml_st (S' := (192, [], [.int 2, .int ((x2 - 26) - (x2 - 26) / 4 * 4), .ref m0], M)) rfl rfl rfl ?_
                  refine ml_call (a := [.ref m0, .int ((x2 - 26) - (x2 - 26) / 4 * 4), .int 2]) (rest := []) rfl (hR.okc rfl rfl rfl) rfl rfl (rm_local hR (hk79) (by omega)) (fun v55 M56 h57 => ?_)
                  obtain ⟨⟨u58, rfl, z59⟩, h57⟩ := h57
                  rw [h57]
                  show ml _ _ _ (195, [], [.int u58], M) _
                  exact ml_ret rfl (r_z (z59)) (⟨⟨_, rfl, z59⟩, rfl⟩)
                · have c_177 : ¬ (((x2 - 26) / 4) = 1) := of_decide_eq_false c_177
                  refine ml_blk 2 (S' := (182, [(3, .int (x2 - 26)), (0, .ref m0)], [.int 4, .int (x2 - 26), .int ((x2 - 26) - (x2 - 26) / 4 * 4), .ref m0], M)) rfl ?_
                  refine ml_blk 2 (S' := (184, [(3, .int (x2 - 26)), (0, .ref m0)], [.int 3, .int ((x2 - 26) / 4), .int ((x2 - 26) - (x2 - 26) / 4 * 4), .ref m0], M)) rfl ?_
                  refine ml_if2 (S1 := (191, [(3, .int (x2 - 26)), (0, .ref m0)], [.int ((x2 - 26) - (x2 - 26) / 4 * 4), .ref m0], M)) (S2 := (187, [], [.int ((x2 - 26) - (x2 - 26) / 4 * 4), .ref m0], M)) rfl rfl rfl (fun c_184 => ?_) (fun c_184 => ?_)
                  · have c_184 : ¬ ((x2 - 26) / 4) = 3 := of_decide_eq_true c_184
                    refine ml_st (S' := (192, [], [.int 1, .int ((x2 - 26) - (x2 - 26) / 4 * 4), .ref m0], M)) rfl rfl rfl ?_
                    refine ml_call (a := [.ref m0, .int ((x2 - 26) - (x2 - 26) / 4 * 4), .int 1]) (rest := []) rfl (hR.okc rfl rfl rfl) rfl rfl (rm_local hR (hk79) (by omega)) (fun v60 M61 h62 => ?_)
                    obtain ⟨⟨u63, rfl, z64⟩, h62⟩ := h62
                    rw [h62]
                    show ml _ _ _ (195, [], [.int u63], M) _
                    exact ml_ret rfl (r_z (z64)) (⟨⟨_, rfl, z64⟩, rfl⟩)
                  · have c_184 : ¬ (¬ ((x2 - 26) / 4) = 3) := of_decide_eq_false c_184
                    refine ml_st (S' := (188, [], [.int 2, .int ((x2 - 26) - (x2 - 26) / 4 * 4), .ref m0], M)) rfl rfl rfl ?_
                    refine ml_st (S' := (192, [], [.int 2, .int ((x2 - 26) - (x2 - 26) / 4 * 4), .ref m0], M)) rfl rfl rfl ?_
                    refine ml_call (a := [.ref m0, .int ((x2 - 26) - (x2 - 26) / 4 * 4), .int 2]) (rest := []) rfl (hR.okc rfl rfl rfl) rfl rfl (rm_local hR (hk79) (by omega)) (fun v65 M66 h67 => ?_)
                    obtain ⟨⟨u68, rfl, z69⟩, h67⟩ := h67
                    rw [h67]
                    show ml _ _ _ (195, [], [.int u68], M) _
                    exact ml_ret rfl (r_z (z69)) (⟨⟨_, rfl, z69⟩, rfl⟩)
              · have c_154 : ¬ (x2 < 59) := of_decide_eq_false c_154
                refine ml_blk 3 (S' := (161, [(0, .ref m0), (2, .int x2)], [.int (x2 - 59)], M)) rfl ?_
                refine ml_st (S' := (168, [(0, .ref m0)], [.int (x2 - 59)], M)) rfl rfl rfl ?_
                refine ml_st (S' := (169, [(3, .int (x2 - 59)), (0, .ref m0)], [], M)) rfl rfl rfl ?_
                refine ml_blk 3 (S' := (172, [(3, .int (x2 - 59)), (0, .ref m0)], [.int 4, .int (x2 - 59), .ref m0], M)) rfl ?_
                refine ml_blk 3 (S' := (175, [(3, .int (x2 - 59)), (0, .ref m0)], [.int 4, .int (x2 - 59), .int ((x2 - 59) - (x2 - 59) / 4 * 4), .ref m0], M)) rfl ?_
                refine ml_blk 2 (S' := (177, [(3, .int (x2 - 59)), (0, .ref m0)], [.int 1, .int ((x2 - 59) / 4), .int ((x2 - 59) - (x2 - 59) / 4 * 4), .ref m0], M)) rfl ?_
                refine ml_if2 (S1 := (187, [], [.int ((x2 - 59) - (x2 - 59) / 4 * 4), .ref m0], M)) (S2 := (180, [(3, .int (x2 - 59)), (0, .ref m0)], [.int ((x2 - 59) - (x2 - 59) / 4 * 4), .ref m0], M)) rfl rfl rfl (fun c_177 => ?_) (fun c_177 => ?_)
                · have c_177 : ((x2 - 59) / 4) = 1 := of_decide_eq_true c_177
                  refine ml_st (S' := (188, [], [.int 2, .int ((x2 - 59) - (x2 - 59) / 4 * 4), .ref m0], M)) rfl rfl rfl ?_
                  refine ml_st (S' := (192, [], [.int 2, .int ((x2 - 59) - (x2 - 59) / 4 * 4), .ref m0], M)) rfl rfl rfl ?_
                  refine ml_call (a := [.ref m0, .int ((x2 - 59) - (x2 - 59) / 4 * 4), .int 2]) (rest := []) rfl (hR.okc rfl rfl rfl) rfl rfl (rm_local hR (hk79) (by omega)) (fun v70 M71 h72 => ?_)
                  obtain ⟨⟨u73, rfl, z74⟩, h72⟩ := h72
                  rw [h72]
                  show ml _ _ _ (195, [], [.int u73], M) _
                  exact ml_ret rfl (r_z (z74)) (⟨⟨_, rfl, z74⟩, rfl⟩)
                · have c_177 : ¬ (((x2 - 59) / 4) = 1) := of_decide_eq_false c_177
                  refine ml_blk 2 (S' := (182, [(3, .int (x2 - 59)), (0, .ref m0)], [.int 4, .int (x2 - 59), .int ((x2 - 59) - (x2 - 59) / 4 * 4), .ref m0], M)) rfl ?_
                  refine ml_blk 2 (S' := (184, [(3, .int (x2 - 59)), (0, .ref m0)], [.int 3, .int ((x2 - 59) / 4), .int ((x2 - 59) - (x2 - 59) / 4 * 4), .ref m0], M)) rfl ?_
                  refine ml_if2 (S1 := (191, [(3, .int (x2 - 59)), (0, .ref m0)], [.int ((x2 - 59) - (x2 - 59) / 4 * 4), .ref m0], M)) (S2 := (187, [], [.int ((x2 - 59) - (x2 - 59) / 4 * 4), .ref m0], M)) rfl rfl rfl (fun c_184 => ?_) (fun c_184 => ?_)
                  · have c_184 : ¬ ((x2 - 59) / 4) = 3 := of_decide_eq_true c_184
                    refine ml_st (S' := (192, [], [.int 1, .int ((x2 - 59) - (x2 - 59) / 4 * 4), .ref m0], M)) rfl rfl rfl ?_
                    refine ml_call (a := [.ref m0, .int ((x2 - 59) - (x2 - 59) / 4 * 4), .int 1]) (rest := []) rfl (hR.okc rfl rfl rfl) rfl rfl (rm_local hR (hk79) (by omega)) (fun v75 M76 h77 => ?_)
                    obtain ⟨⟨u78, rfl, z79⟩, h77⟩ := h77
                    rw [h77]
                    show ml _ _ _ (195, [], [.int u78], M) _
                    exact ml_ret rfl (r_z (z79)) (⟨⟨_, rfl, z79⟩, rfl⟩)
                  · have c_184 : ¬ (¬ ((x2 - 59) / 4) = 3) := of_decide_eq_false c_184
                    refine ml_st (S' := (188, [], [.int 2, .int ((x2 - 59) - (x2 - 59) / 4 * 4), .ref m0], M)) rfl rfl rfl ?_
                    refine ml_st (S' := (192, [], [.int 2, .int ((x2 - 59) - (x2 - 59) / 4 * 4), .ref m0], M)) rfl rfl rfl ?_
                    refine ml_call (a := [.ref m0, .int ((x2 - 59) - (x2 - 59) / 4 * 4), .int 2]) (rest := []) rfl (hR.okc rfl rfl rfl) rfl rfl (rm_local hR (hk79) (by omega)) (fun v80 M81 h82 => ?_)
                    obtain ⟨⟨u83, rfl, z84⟩, h82⟩ := h82
                    rw [h82]
                    show ml _ _ _ (195, [], [.int u83], M) _
                    exact ml_ret rfl (r_z (z84)) (⟨⟨_, rfl, z84⟩, rfl⟩)
            have J_139 : ml (mT g) d (mb_228 g).2 (139, [(0, .ref m0), (1, .int x1), (2, .int x2)], [], M) (fun v M' => (∃ x : Int32, v = some (.int x) ∧ (x = 0 ∨ x = 1)) ∧ M' = M) := by
              refine ml_blk 2 (S' := (142, [(0, .ref m0), (1, .int x1), (2, .int x2)], [.int 59, .int x2], M)) rfl ?_
              have J_196 : ml (mT g) d (mb_228 g).2 (196, [(0, .ref m0), (1, .int x1), (2, .int x2)], [], M) (fun v M' => (∃ x : Int32, v = some (.int x) ∧ (x = 0 ∨ x = 1)) ∧ M' = M) := by
                refine ml_blk 2 (S' := (200, [(0, .ref m0), (1, .int x1), (2, .int x2)], [.int 132, .int x2], M)) rfl ?_
                refine ml_if2 (S1 := (216, [(0, .ref m0), (1, .int x1), (2, .int x2)], [], M)) (S2 := (203, [(0, .ref m0), (1, .int x1), (2, .int x2)], [], M)) rfl rfl rfl (fun c_200 => ?_) (fun c_200 => ?_)
                · have c_200 : ¬ x2 = 132 := of_decide_eq_true c_200
                  refine ml_blk 2 (S' := (220, [(0, .ref m0), (1, .int x1), (2, .int x2)], [.int 196, .int x2], M)) rfl ?_
                  refine ml_if2 (S1 := (296, [(0, .ref m0), (1, .int x1), (2, .int x2)], [], M)) (S2 := (223, [(0, .ref m0), (1, .int x1), (2, .int x2)], [], M)) rfl rfl rfl (fun c_220 => ?_) (fun c_220 => ?_)
                  · have c_220 : ¬ x2 = 196 := of_decide_eq_true c_220
                    refine ml_blk 2 (S' := (300, [(0, .ref m0), (1, .int x1), (2, .int x2)], [.int 188, .int x2], M)) rfl ?_
                    refine ml_if2 (S1 := (332, [(0, .ref m0), (1, .int x1), (2, .int x2)], [], M)) (S2 := (303, [(0, .ref m0), (1, .int x1), (2, .int x2)], [], M)) rfl rfl rfl (fun c_300 => ?_) (fun c_300 => ?_)
                    · have c_300 : ¬ x2 = 188 := of_decide_eq_true c_300
                      refine ml_blk 2 (S' := (335, [(0, .ref m0), (1, .int x1), (2, .int x2)], [.int 18, .int x2], M)) rfl ?_
                      have J_513 : ml (mT g) d (mb_228 g).2 (513, [(0, .ref m0), (1, .int x1), (2, .int x2)], [], M) (fun v M' => (∃ x : Int32, v = some (.int x) ∧ (x = 0 ∨ x = 1)) ∧ M' = M) := by
                        refine ml_blk 2 (S' := (517, [(0, .ref m0), (1, .int x1), (2, .int x2)], [.int 178, .int x2], M)) rfl ?_
                        have J_549 : ml (mT g) d (mb_228 g).2 (549, [(0, .ref m0), (1, .int x1), (2, .int x2)], [], M) (fun v M' => (∃ x : Int32, v = some (.int x) ∧ (x = 0 ∨ x = 1)) ∧ M' = M) := by
                          refine ml_blk 2 (S' := (553, [(0, .ref m0), (1, .int x1), (2, .int x2)], [.int 182, .int x2], M)) rfl ?_
                          have J_692 : ml (mT g) d (mb_228 g).2 (692, [(0, .ref m0), (1, .int x1), (2, .int x2)], [], M) (fun v M' => (∃ x : Int32, v = some (.int x) ∧ (x = 0 ∨ x = 1)) ∧ M' = M) := by
                            refine ml_blk 2 (S' := (696, [(0, .ref m0), (1, .int x1), (2, .int x2)], [.int 186, .int x2], M)) rfl ?_
                            refine ml_if2 (S1 := (741, [(0, .ref m0), (1, .int x1), (2, .int x2)], [], M)) (S2 := (699, [(0, .ref m0), (1, .int x1), (2, .int x2)], [], M)) rfl rfl rfl (fun c_696 => ?_) (fun c_696 => ?_)
                            · have c_696 : ¬ x2 = 186 := of_decide_eq_true c_696
                              refine ml_blk 2 (S' := (745, [(0, .ref m0), (1, .int x1), (2, .int x2)], [.int 187, .int x2], M)) rfl ?_
                              have J_776 : ((3 : Int) ≤ nn) → ml (mT g) d (mb_228 g).2 (776, [(0, .ref m0), (1, .int x1), (2, .int x2)], [], M) (fun v M' => (∃ x : Int32, v = some (.int x) ∧ (x = 0 ∨ x = 1)) ∧ M' = M) := by
                                intro hj_776
                                refine ml_blk 3 (S' := (779, [(0, .ref m0), (1, .int x1), (2, .int x2)], [.int 1, .int x1, .ref m0], M)) rfl ?_
                                refine ml_st (S' := (780, [(0, .ref m0), (1, .int x1), (2, .int x2)], [.int (x1 + 1), .ref m0], M)) rfl rfl rfl ?_
                                refine ml_call (a := [.ref m0, .int (x1 + 1)]) (rest := []) rfl (hR.okc rfl rfl rfl) rfl rfl (rm_b2 hR hF hC (by omega) (by omega) (by omega)) (fun v85 M86 h87 => ?_)
                                obtain ⟨rfl, h87⟩ := h87
                                rw [h87]
                                show ml _ _ _ (783, [(0, .ref m0), (1, .int x1), (2, .int x2)], [.int (f2 f (ca + (x1 + 1)))], M) _
                                refine ml_st (S' := (784, [(3, .int (f2 f (ca + (x1 + 1)))), (0, .ref m0), (1, .int x1), (2, .int x2)], [], M)) rfl rfl rfl ?_
                                refine ml_blk 2 (S' := (786, [(3, .int (f2 f (ca + (x1 + 1)))), (0, .ref m0), (1, .int x1), (2, .int x2)], [.int (f2 f (ca + (x1 + 1))), .ref m0], M)) rfl ?_
                                refine ml_call (a := [.ref m0, .int (f2 f (ca + (x1 + 1)))]) (rest := []) rfl (hR.okc rfl rfl rfl) rfl rfl (rm_tag hR hF hP (by omega)) (fun v88 M89 h90 => ?_)
                                obtain ⟨rfl, h90⟩ := h90
                                rw [h90]
                                show ml _ _ _ (789, [(3, .int (f2 f (ca + (x1 + 1)))), (0, .ref m0), (1, .int x1), (2, .int x2)], [.int (tgf f cp pa (f2 f (ca + (x1 + 1))))], M) _
                                refine ml_st (S' := (791, [(3, .int (f2 f (ca + (x1 + 1)))), (0, .ref m0), (1, .int x1), (2, .int x2)], [.int 7, .int (tgf f cp pa (f2 f (ca + (x1 + 1))))], M)) rfl rfl rfl ?_
                                refine ml_if2 (S1 := (796, [(3, .int (f2 f (ca + (x1 + 1)))), (0, .ref m0), (1, .int x1), (2, .int x2)], [], M)) (S2 := (794, [(3, .int (f2 f (ca + (x1 + 1)))), (0, .ref m0), (1, .int x1), (2, .int x2)], [], M)) rfl rfl rfl (fun c_791 => ?_) (fun c_791 => ?_)
                                · have c_791 : (tgf f cp pa (f2 f (ca + (x1 + 1)))) = 7 := of_decide_eq_true c_791
                                  have t7h : tgf f cp pa (f2 f (ca + (x1 + 1))) = 7 := c_791
                                  have hE7 := hE (f2 f (ca + (x1 + 1))) (by rw [t7h]; decide)
                                  have h7i := hE7.1.1 (Or.inl t7h)
                                  have hy7 := hP.y h7i
                                  refine ml_blk 2 (S' := (798, [(3, .int (f2 f (ca + (x1 + 1)))), (0, .ref m0), (1, .int x1), (2, .int x2)], [.int (f2 f (ca + (x1 + 1))), .ref m0], M)) rfl ?_
                                  refine ml_call (a := [.ref m0, .int (f2 f (ca + (x1 + 1)))]) (rest := []) rfl (hR.okc rfl rfl rfl) rfl rfl (rm_className hR hF hP (t7h) (h7i) (by omega)) (fun v91 M92 h93 => ?_)
                                  obtain ⟨rfl, h93⟩ := h93
                                  rw [h93]
                                  show ml _ _ _ (801, [(3, .int (f2 f (ca + (x1 + 1)))), (0, .ref m0), (1, .int x1), (2, .int x2)], [.int (pyf py (ixf f pa (f2 f (ca + (x1 + 1))) 1))], M) _
                                  refine ml_st (S' := (803, [(4, .int (pyf py (ixf f pa (f2 f (ca + (x1 + 1))) 1))), (3, .int (f2 f (ca + (x1 + 1)))), (0, .ref m0), (1, .int x1), (2, .int x2)], [], M)) rfl rfl rfl ?_
                                  refine ml_st (S' := (804, [(4, .int (pyf py (ixf f pa (f2 f (ca + (x1 + 1))) 1))), (3, .int (f2 f (ca + (x1 + 1)))), (0, .ref m0), (1, .int x1), (2, .int x2)], [.int 0], M)) rfl rfl rfl ?_
                                  refine ml_st (S' := (806, [(0, .ref m0), (1, .int x1), (2, .int x2), (4, .int (pyf py (ixf f pa (f2 f (ca + (x1 + 1))) 1))), (5, .int 0)], [], M)) rfl rfl rfl ?_
                                  have L_806 : ∀ (n_806 : Nat) (i806_5 : Int32), (2147483648 - i806_5.toInt).toNat ≤ n_806 → 0 ≤ i806_5.toInt → ml (mT g) d (mb_228 g).2 (806, [(0, .ref m0), (1, .int x1), (2, .int x2), (4, .int (pyf py (ixf f pa (f2 f (ca + (x1 + 1))) 1))), (5, .int i806_5)], [], M) (fun v M' => (∃ x : Int32, v = some (.int x) ∧ (x = 0 ∨ x = 1)) ∧ M' = M) := by
                                    intro n_806
                                    induction n_806 with
                                    | zero => intro i806_5 hn; exact (loop_zero hn).elim
                                    | succ n_806 ih_806 =>
                                      intro i806_5 hn_806 hi_806
                                      refine ml_blk 3 (S' := (811, [(0, .ref m0), (1, .int x1), (2, .int x2), (4, .int (pyf py (ixf f pa (f2 f (ca + (x1 + 1))) 1))), (5, .int i806_5)], [.int (pyf py (ixf f pa (f2 f (ca + (x1 + 1))) 1)), .ref m0, .int i806_5], M)) rfl ?_
                                      refine ml_call (a := [.ref m0, .int (pyf py (ixf f pa (f2 f (ca + (x1 + 1))) 1))]) (rest := [.int i806_5]) rfl (hR.okc rfl rfl rfl) rfl rfl (rm_length hR hY (hy7.2.2.1) (hy7.2.2.2) (by omega)) (fun v94 M95 h96 => ?_)
                                      obtain ⟨rfl, h96⟩ := h96
                                      rw [h96]
                                      show ml _ _ _ (814, [(0, .ref m0), (1, .int x1), (2, .int x2), (4, .int (pyf py (ixf f pa (f2 f (ca + (x1 + 1))) 1))), (5, .int i806_5)], [.int (sL sl (pyf py (ixf f pa (f2 f (ca + (x1 + 1))) 1))), .int i806_5], M) _
                                      have J_836 : ml (mT g) d (mb_228 g).2 (836, [(0, .ref m0), (1, .int x1), (2, .int x2), (5, .int i806_5)], [], M) (fun v M' => (∃ x : Int32, v = some (.int x) ∧ (x = 0 ∨ x = 1)) ∧ M' = M) := by
                                        refine ml_blk 2 (S' := (840, [(0, .ref m0), (1, .int x1), (2, .int x2), (5, .int i806_5)], [.int 187, .int x2], M)) rfl ?_
                                        refine ml_if2 (S1 := (854, [(0, .ref m0), (1, .int x1), (2, .int x2), (5, .int i806_5)], [], M)) (S2 := (843, [(0, .ref m0), (1, .int x1), (2, .int x2), (5, .int i806_5)], [], M)) rfl rfl rfl (fun c_840 => ?_) (fun c_840 => ?_)
                                        · have c_840 : ¬ x2 = 187 := of_decide_eq_true c_840
                                          refine ml_blk 2 (S' := (858, [(0, .ref m0), (1, .int x1), (2, .int x2), (5, .int i806_5)], [.int 189, .int x2], M)) rfl ?_
                                          refine ml_if2 (S1 := (875, [(0, .ref m0), (1, .int x1), (2, .int x2), (5, .int i806_5)], [], M)) (S2 := (861, [(0, .ref m0), (1, .int x1), (2, .int x2), (5, .int i806_5)], [], M)) rfl rfl rfl (fun c_858 => ?_) (fun c_858 => ?_)
                                          · have c_858 : ¬ x2 = 189 := of_decide_eq_true c_858
                                            refine ml_blk 2 (S' := (879, [(0, .ref m0), (1, .int x1), (2, .int x2), (5, .int i806_5)], [.int 197, .int x2], M)) rfl ?_
                                            refine ml_if2 (S1 := (905, [], [], M)) (S2 := (882, [(0, .ref m0), (1, .int x1), (2, .int x2), (5, .int i806_5)], [], M)) rfl rfl rfl (fun c_879 => ?_) (fun c_879 => ?_)
                                            · have c_879 : ¬ x2 = 197 := of_decide_eq_true c_879
                                              refine ml_st (S' := (906, [], [.int 1], M)) rfl rfl rfl ?_
                                              refine ml_st (S' := (910, [], [.int 1], M)) rfl rfl rfl ?_
                                              exact ml_ret rfl (r_z (Or.inr rfl)) (⟨⟨_, rfl, Or.inr rfl⟩, rfl⟩)
                                            · have c_879 : ¬ (¬ x2 = 197) := of_decide_eq_false c_879
                                              have h4 : (4 : Int) ≤ nn := iln 4 hln 197 197 (by rw [show _ = (197 : Int32) from Decidable.not_not.mp c_879]; decide) (by rw [show _ = (197 : Int32) from Decidable.not_not.mp c_879]; decide) mlk_4_197_197
                                              refine ml_blk 3 (S' := (885, [(0, .ref m0), (1, .int x1), (2, .int x2), (5, .int i806_5)], [.int 3, .int x1, .ref m0], M)) rfl ?_
                                              refine ml_st (S' := (886, [(0, .ref m0), (1, .int x1), (2, .int x2), (5, .int i806_5)], [.int (x1 + 3), .ref m0], M)) rfl rfl rfl ?_
                                              refine ml_call (a := [.ref m0, .int (x1 + 3)]) (rest := []) rfl (hR.okc rfl rfl rfl) rfl rfl (rm_b1 hR hF hC (by omega) (by omega) (by omega)) (fun v97 M98 h99 => ?_)
                                              obtain ⟨rfl, h99⟩ := h99
                                              rw [h99]
                                              show ml _ _ _ (889, [(0, .ref m0), (1, .int x1), (2, .int x2), (5, .int i806_5)], [.int (f1 f (ca + (x1 + 3)))], M) _
                                              refine ml_st (S' := (890, [(0, .ref m0), (1, .int x1), (2, .int x2), (5, .int i806_5)], [.int 1, .int (f1 f (ca + (x1 + 3)))], M)) rfl rfl rfl ?_
                                              refine ml_if2 (S1 := (909, [], [], M)) (S2 := (893, [(0, .ref m0), (1, .int x1), (2, .int x2), (5, .int i806_5)], [], M)) rfl rfl rfl (fun c_890 => ?_) (fun c_890 => ?_)
                                              · have c_890 : (f1 f (ca + (x1 + 3))) < 1 := of_decide_eq_true c_890
                                                refine ml_st (S' := (910, [], [.int 0], M)) rfl rfl rfl ?_
                                                exact ml_ret rfl (r_z (Or.inl rfl)) (⟨⟨_, rfl, Or.inl rfl⟩, rfl⟩)
                                              · have c_890 : ¬ ((f1 f (ca + (x1 + 3))) < 1) := of_decide_eq_false c_890
                                                refine ml_blk 3 (S' := (896, [(0, .ref m0), (1, .int x1), (2, .int x2), (5, .int i806_5)], [.int 3, .int x1, .ref m0], M)) rfl ?_
                                                refine ml_st (S' := (897, [(0, .ref m0), (1, .int x1), (2, .int x2), (5, .int i806_5)], [.int (x1 + 3), .ref m0], M)) rfl rfl rfl ?_
                                                refine ml_call (a := [.ref m0, .int (x1 + 3)]) (rest := []) rfl (hR.okc rfl rfl rfl) rfl rfl (rm_b1 hR hF hC (by omega) (by omega) (by omega)) (fun v100 M101 h102 => ?_)
                                                obtain ⟨rfl, h102⟩ := h102
                                                rw [h102]
                                                show ml _ _ _ (900, [(0, .ref m0), (1, .int x1), (2, .int x2), (5, .int i806_5)], [.int (f1 f (ca + (x1 + 3)))], M) _
                                                refine ml_st (S' := (902, [(0, .ref m0), (1, .int x1), (2, .int x2), (5, .int i806_5)], [.int i806_5, .int (f1 f (ca + (x1 + 3)))], M)) rfl rfl rfl ?_
                                                refine ml_if2 (S1 := (909, [], [], M)) (S2 := (905, [], [], M)) rfl rfl rfl (fun c_902 => ?_) (fun c_902 => ?_)
                                                · have c_902 : i806_5 < (f1 f (ca + (x1 + 3))) := of_decide_eq_true c_902
                                                  refine ml_st (S' := (910, [], [.int 0], M)) rfl rfl rfl ?_
                                                  exact ml_ret rfl (r_z (Or.inl rfl)) (⟨⟨_, rfl, Or.inl rfl⟩, rfl⟩)
                                                · have c_902 : ¬ (i806_5 < (f1 f (ca + (x1 + 3)))) := of_decide_eq_false c_902
                                                  refine ml_st (S' := (906, [], [.int 1], M)) rfl rfl rfl ?_
                                                  refine ml_st (S' := (910, [], [.int 1], M)) rfl rfl rfl ?_
                                                  exact ml_ret rfl (r_z (Or.inr rfl)) (⟨⟨_, rfl, Or.inr rfl⟩, rfl⟩)
                                          · have c_858 : ¬ (¬ x2 = 189) := of_decide_eq_false c_858
                                            refine ml_blk 2 (S' := (866, [(0, .ref m0), (1, .int x1), (2, .int x2), (5, .int i806_5)], [.int 255, .int i806_5], M)) rfl ?_
                                            refine ml_if2 (S1 := (873, [(0, .ref m0), (1, .int x1), (2, .int x2), (5, .int i806_5)], [], M)) (S2 := (869, [(0, .ref m0), (1, .int x1), (2, .int x2), (5, .int i806_5)], [], M)) rfl rfl rfl (fun c_866 => ?_) (fun c_866 => ?_)
                                            · have c_866 : 255 ≤ i806_5 := of_decide_eq_true c_866
                                              refine ml_st (S' := (874, [], [.int 0], M)) rfl rfl rfl ?_
                                              exact ml_ret rfl (r_z (Or.inl rfl)) (⟨⟨_, rfl, Or.inl rfl⟩, rfl⟩)
                                            · have c_866 : ¬ (255 ≤ i806_5) := of_decide_eq_false c_866
                                              refine ml_st (S' := (870, [(0, .ref m0), (1, .int x1), (2, .int x2), (5, .int i806_5)], [.int 1], M)) rfl rfl rfl ?_
                                              refine ml_st (S' := (874, [], [.int 1], M)) rfl rfl rfl ?_
                                              exact ml_ret rfl (r_z (Or.inr rfl)) (⟨⟨_, rfl, Or.inr rfl⟩, rfl⟩)
                                        · have c_840 : ¬ (¬ x2 = 187) := of_decide_eq_false c_840
                                          refine ml_st (S' := (845, [(0, .ref m0), (1, .int x1), (2, .int x2), (5, .int i806_5)], [.int i806_5], M)) rfl rfl rfl ?_
                                          refine ml_if (S1 := (852, [(0, .ref m0), (1, .int x1), (2, .int x2), (5, .int i806_5)], [], M)) (S2 := (848, [(0, .ref m0), (1, .int x1), (2, .int x2), (5, .int i806_5)], [], M)) rfl rfl rfl (fun c_845 => ?_) (fun c_845 => ?_)
                                          · have c_845 : ¬ i806_5 = 0 := of_decide_eq_true c_845
                                            refine ml_st (S' := (853, [], [.int 0], M)) rfl rfl rfl ?_
                                            exact ml_ret rfl (r_z (Or.inl rfl)) (⟨⟨_, rfl, Or.inl rfl⟩, rfl⟩)
                                          · have c_845 : ¬ (¬ i806_5 = 0) := of_decide_eq_false c_845
                                            refine ml_st (S' := (849, [(0, .ref m0), (1, .int x1), (2, .int x2), (5, .int i806_5)], [.int 1], M)) rfl rfl rfl ?_
                                            refine ml_st (S' := (853, [], [.int 1], M)) rfl rfl rfl ?_
                                            exact ml_ret rfl (r_z (Or.inr rfl)) (⟨⟨_, rfl, Or.inr rfl⟩, rfl⟩)
                                      refine ml_if2 (S1 := (836, [(0, .ref m0), (1, .int x1), (2, .int x2), (5, .int i806_5)], [], M)) (S2 := (817, [(0, .ref m0), (1, .int x1), (2, .int x2), (4, .int (pyf py (ixf f pa (f2 f (ca + (x1 + 1))) 1))), (5, .int i806_5)], [], M)) rfl rfl rfl (fun c_814 => ?_) (fun c_814 => ?_)
                                      · have c_814 : (sL sl (pyf py (ixf f pa (f2 f (ca + (x1 + 1))) 1))) ≤ i806_5 := of_decide_eq_true c_814
                                        exact J_836 
                                      · have c_814 : ¬ ((sL sl (pyf py (ixf f pa (f2 f (ca + (x1 + 1))) 1))) ≤ i806_5) := of_decide_eq_false c_814
                                        refine ml_blk 3 (S' := (822, [(0, .ref m0), (1, .int x1), (2, .int x2), (4, .int (pyf py (ixf f pa (f2 f (ca + (x1 + 1))) 1))), (5, .int i806_5)], [.int i806_5, .int (pyf py (ixf f pa (f2 f (ca + (x1 + 1))) 1)), .ref m0], M)) rfl ?_
                                        refine ml_call (a := [.ref m0, .int (pyf py (ixf f pa (f2 f (ca + (x1 + 1))) 1)), .int i806_5]) (rest := []) rfl (hR.okc rfl rfl rfl) rfl rfl (rm_at hR hY (hy7.2.2.1) (hy7.2.2.2) (hi_806) (i_nle c_814) (by omega)) (fun v103 M104 h105 => ?_)
                                        obtain ⟨rfl, h105⟩ := h105
                                        rw [h105]
                                        show ml _ _ _ (825, [(0, .ref m0), (1, .int x1), (2, .int x2), (4, .int (pyf py (ixf f pa (f2 f (ca + (x1 + 1))) 1))), (5, .int i806_5)], [.int (tx sa ch (pyf py (ixf f pa (f2 f (ca + (x1 + 1))) 1)) i806_5)], M) _
                                        refine ml_st (S' := (827, [(0, .ref m0), (1, .int x1), (2, .int x2), (4, .int (pyf py (ixf f pa (f2 f (ca + (x1 + 1))) 1))), (5, .int i806_5)], [.int 91, .int (tx sa ch (pyf py (ixf f pa (f2 f (ca + (x1 + 1))) 1)) i806_5)], M)) rfl rfl rfl ?_
                                        refine ml_if2 (S1 := (836, [(0, .ref m0), (1, .int x1), (2, .int x2), (5, .int i806_5)], [], M)) (S2 := (830, [(0, .ref m0), (1, .int x1), (2, .int x2), (4, .int (pyf py (ixf f pa (f2 f (ca + (x1 + 1))) 1))), (5, .int i806_5)], [], M)) rfl rfl rfl (fun c_827 => ?_) (fun c_827 => ?_)
                                        · have c_827 : ¬ (tx sa ch (pyf py (ixf f pa (f2 f (ca + (x1 + 1))) 1)) i806_5) = 91 := of_decide_eq_true c_827
                                          exact J_836 
                                        · have c_827 : ¬ (¬ (tx sa ch (pyf py (ixf f pa (f2 f (ca + (x1 + 1))) 1)) i806_5) = 91) := of_decide_eq_false c_827
                                          refine ml_st (S' := (833, [(5, .int (i806_5 + 1)), (0, .ref m0), (1, .int x1), (2, .int x2), (4, .int (pyf py (ixf f pa (f2 f (ca + (x1 + 1))) 1)))], [], M)) rfl rfl rfl ?_
                                          refine ml_st (S' := (806, [(0, .ref m0), (1, .int x1), (2, .int x2), (4, .int (pyf py (ixf f pa (f2 f (ca + (x1 + 1))) 1))), (5, .int (i806_5 + 1))], [], M)) rfl rfl rfl ?_
                                          exact ih_806 (i806_5 + 1) (loop_inc (Int32.not_le.mp c_814) hn_806) (by rw [inc_lt (Int32.not_le.mp c_814)]; omega)
                                  exact L_806 _ 0 (Nat.le_refl _) (by decide)
                                · have c_791 : ¬ ((tgf f cp pa (f2 f (ca + (x1 + 1)))) = 7) := of_decide_eq_false c_791
                                  refine ml_st (S' := (795, [(3, .int (f2 f (ca + (x1 + 1)))), (0, .ref m0), (1, .int x1), (2, .int x2)], [.int 0], M)) rfl rfl rfl ?_
                                  exact ml_ret rfl (r_z (Or.inl rfl)) (⟨⟨_, rfl, Or.inl rfl⟩, rfl⟩)
                              refine ml_if2 (S1 := (776, [(0, .ref m0), (1, .int x1), (2, .int x2)], [], M)) (S2 := (748, [(0, .ref m0), (1, .int x1), (2, .int x2)], [], M)) rfl rfl rfl (fun c_745 => ?_) (fun c_745 => ?_)
                              · have c_745 : x2 = 187 := of_decide_eq_true c_745
                                exact J_776  (iln 3 hln 187 187 (by rw [show _ = (187 : Int32) from c_745]; decide) (by rw [show _ = (187 : Int32) from c_745]; decide) mlk_3_187_187)
                              · have c_745 : ¬ (x2 = 187) := of_decide_eq_false c_745
                                refine ml_blk 2 (S' := (752, [(0, .ref m0), (1, .int x1), (2, .int x2)], [.int 189, .int x2], M)) rfl ?_
                                refine ml_if2 (S1 := (776, [(0, .ref m0), (1, .int x1), (2, .int x2)], [], M)) (S2 := (755, [(0, .ref m0), (1, .int x1), (2, .int x2)], [], M)) rfl rfl rfl (fun c_752 => ?_) (fun c_752 => ?_)
                                · have c_752 : x2 = 189 := of_decide_eq_true c_752
                                  exact J_776  (iln 3 hln 189 189 (by rw [show _ = (189 : Int32) from c_752]; decide) (by rw [show _ = (189 : Int32) from c_752]; decide) mlk_3_189_189)
                                · have c_752 : ¬ (x2 = 189) := of_decide_eq_false c_752
                                  refine ml_blk 2 (S' := (759, [(0, .ref m0), (1, .int x1), (2, .int x2)], [.int 192, .int x2], M)) rfl ?_
                                  refine ml_if2 (S1 := (776, [(0, .ref m0), (1, .int x1), (2, .int x2)], [], M)) (S2 := (762, [(0, .ref m0), (1, .int x1), (2, .int x2)], [], M)) rfl rfl rfl (fun c_759 => ?_) (fun c_759 => ?_)
                                  · have c_759 : x2 = 192 := of_decide_eq_true c_759
                                    exact J_776  (iln 3 hln 192 192 (by rw [show _ = (192 : Int32) from c_759]; decide) (by rw [show _ = (192 : Int32) from c_759]; decide) mlk_3_192_192)
                                  · have c_759 : ¬ (x2 = 192) := of_decide_eq_false c_759
                                    refine ml_blk 2 (S' := (766, [(0, .ref m0), (1, .int x1), (2, .int x2)], [.int 193, .int x2], M)) rfl ?_
                                    refine ml_if2 (S1 := (776, [(0, .ref m0), (1, .int x1), (2, .int x2)], [], M)) (S2 := (769, [(0, .ref m0), (1, .int x1), (2, .int x2)], [], M)) rfl rfl rfl (fun c_766 => ?_) (fun c_766 => ?_)
                                    · have c_766 : x2 = 193 := of_decide_eq_true c_766
                                      exact J_776  (iln 3 hln 193 193 (by rw [show _ = (193 : Int32) from c_766]; decide) (by rw [show _ = (193 : Int32) from c_766]; decide) mlk_3_193_193)
                                    · have c_766 : ¬ (x2 = 193) := of_decide_eq_false c_766
                                      refine ml_blk 2 (S' := (773, [(0, .ref m0), (1, .int x1), (2, .int x2)], [.int 197, .int x2], M)) rfl ?_
                                      refine ml_if2 (S1 := (911, [(0, .ref m0), (1, .int x1), (2, .int x2)], [], M)) (S2 := (776, [(0, .ref m0), (1, .int x1), (2, .int x2)], [], M)) rfl rfl rfl (fun c_773 => ?_) (fun c_773 => ?_)
                                      · have c_773 : ¬ x2 = 197 := of_decide_eq_true c_773
                                        refine ml_st (S' := (912, [(0, .ref m0), (1, .int x1), (2, .int x2)], [.int 1], M)) rfl rfl rfl ?_
                                        exact ml_ret rfl (r_z (Or.inr rfl)) (⟨⟨_, rfl, Or.inr rfl⟩, rfl⟩)
                                      · have c_773 : ¬ (¬ x2 = 197) := of_decide_eq_false c_773
                                        exact J_776  (Int.le_trans (by decide) (iln 4 hln 197 197 (by rw [show _ = (197 : Int32) from Decidable.not_not.mp c_773]; decide) (by rw [show _ = (197 : Int32) from Decidable.not_not.mp c_773]; decide) mlk_4_197_197))
                            · have c_696 : ¬ (¬ x2 = 186) := of_decide_eq_false c_696
                              have h5 : (5 : Int) ≤ nn := iln 5 hln 186 186 (by rw [show _ = (186 : Int32) from Decidable.not_not.mp c_696]; decide) (by rw [show _ = (186 : Int32) from Decidable.not_not.mp c_696]; decide) mlk_5_186_186
                              refine ml_blk 3 (S' := (702, [(0, .ref m0), (1, .int x1), (2, .int x2)], [.int x1, .ref m0, .ref m0], M)) rfl ?_
                              refine ml_blk 2 (S' := (704, [(0, .ref m0), (1, .int x1), (2, .int x2)], [.int (x1 + 1), .ref m0, .ref m0], M)) rfl ?_
                              refine ml_call (a := [.ref m0, .int (x1 + 1)]) (rest := [.ref m0]) rfl (hR.okc rfl rfl rfl) rfl rfl (rm_b2 hR hF hC (by omega) (by omega) (by omega)) (fun v106 M107 h108 => ?_)
                              obtain ⟨rfl, h108⟩ := h108
                              rw [h108]
                              show ml _ _ _ (707, [(0, .ref m0), (1, .int x1), (2, .int x2)], [.int (f2 f (ca + (x1 + 1))), .ref m0], M) _
                              refine ml_call (a := [.ref m0, .int (f2 f (ca + (x1 + 1)))]) (rest := []) rfl (hR.okc rfl rfl rfl) rfl rfl (rm_tag hR hF hP (by omega)) (fun v109 M110 h111 => ?_)
                              obtain ⟨rfl, h111⟩ := h111
                              rw [h111]
                              show ml _ _ _ (710, [(0, .ref m0), (1, .int x1), (2, .int x2)], [.int (tgf f cp pa (f2 f (ca + (x1 + 1))))], M) _
                              refine ml_st (S' := (712, [(0, .ref m0), (1, .int x1), (2, .int x2)], [.int 18, .int (tgf f cp pa (f2 f (ca + (x1 + 1))))], M)) rfl rfl rfl ?_
                              refine ml_if2 (S1 := (739, [], [], M)) (S2 := (715, [(0, .ref m0), (1, .int x1), (2, .int x2)], [], M)) rfl rfl rfl (fun c_712 => ?_) (fun c_712 => ?_)
                              · have c_712 : ¬ (tgf f cp pa (f2 f (ca + (x1 + 1)))) = 18 := of_decide_eq_true c_712
                                refine ml_st (S' := (740, [], [.int 0], M)) rfl rfl rfl ?_
                                exact ml_ret rfl (r_z (Or.inl rfl)) (⟨⟨_, rfl, Or.inl rfl⟩, rfl⟩)
                              · have c_712 : ¬ (¬ (tgf f cp pa (f2 f (ca + (x1 + 1)))) = 18) := of_decide_eq_false c_712
                                refine ml_blk 3 (S' := (718, [(0, .ref m0), (1, .int x1), (2, .int x2)], [.int 3, .int x1, .ref m0], M)) rfl ?_
                                refine ml_st (S' := (719, [(0, .ref m0), (1, .int x1), (2, .int x2)], [.int (x1 + 3), .ref m0], M)) rfl rfl rfl ?_
                                refine ml_call (a := [.ref m0, .int (x1 + 3)]) (rest := []) rfl (hR.okc rfl rfl rfl) rfl rfl (rm_b1 hR hF hC (by omega) (by omega) (by omega)) (fun v112 M113 h114 => ?_)
                                obtain ⟨rfl, h114⟩ := h114
                                rw [h114]
                                show ml _ _ _ (722, [(0, .ref m0), (1, .int x1), (2, .int x2)], [.int (f1 f (ca + (x1 + 3)))], M) _
                                refine ml_if (S1 := (739, [], [], M)) (S2 := (725, [(0, .ref m0), (1, .int x1), (2, .int x2)], [], M)) rfl rfl rfl (fun c_722 => ?_) (fun c_722 => ?_)
                                · have c_722 : ¬ (f1 f (ca + (x1 + 3))) = 0 := of_decide_eq_true c_722
                                  refine ml_st (S' := (740, [], [.int 0], M)) rfl rfl rfl ?_
                                  exact ml_ret rfl (r_z (Or.inl rfl)) (⟨⟨_, rfl, Or.inl rfl⟩, rfl⟩)
                                · have c_722 : ¬ (¬ (f1 f (ca + (x1 + 3))) = 0) := of_decide_eq_false c_722
                                  refine ml_blk 3 (S' := (728, [(0, .ref m0), (1, .int x1), (2, .int x2)], [.int 4, .int x1, .ref m0], M)) rfl ?_
                                  refine ml_st (S' := (729, [(0, .ref m0), (1, .int x1), (2, .int x2)], [.int (x1 + 4), .ref m0], M)) rfl rfl rfl ?_
                                  refine ml_call (a := [.ref m0, .int (x1 + 4)]) (rest := []) rfl (hR.okc rfl rfl rfl) rfl rfl (rm_b1 hR hF hC (by omega) (by omega) (by omega)) (fun v115 M116 h117 => ?_)
                                  obtain ⟨rfl, h117⟩ := h117
                                  rw [h117]
                                  show ml _ _ _ (732, [(0, .ref m0), (1, .int x1), (2, .int x2)], [.int (f1 f (ca + (x1 + 4)))], M) _
                                  refine ml_if (S1 := (739, [], [], M)) (S2 := (735, [(0, .ref m0), (1, .int x1), (2, .int x2)], [], M)) rfl rfl rfl (fun c_732 => ?_) (fun c_732 => ?_)
                                  · have c_732 : ¬ (f1 f (ca + (x1 + 4))) = 0 := of_decide_eq_true c_732
                                    refine ml_st (S' := (740, [], [.int 0], M)) rfl rfl rfl ?_
                                    exact ml_ret rfl (r_z (Or.inl rfl)) (⟨⟨_, rfl, Or.inl rfl⟩, rfl⟩)
                                  · have c_732 : ¬ (¬ (f1 f (ca + (x1 + 4))) = 0) := of_decide_eq_false c_732
                                    refine ml_st (S' := (736, [(0, .ref m0), (1, .int x1), (2, .int x2)], [.int 1], M)) rfl rfl rfl ?_
                                    refine ml_st (S' := (740, [], [.int 1], M)) rfl rfl rfl ?_
                                    exact ml_ret rfl (r_z (Or.inr rfl)) (⟨⟨_, rfl, Or.inr rfl⟩, rfl⟩)
                          refine ml_if2 (S1 := (692, [(0, .ref m0), (1, .int x1), (2, .int x2)], [], M)) (S2 := (556, [(0, .ref m0), (1, .int x1), (2, .int x2)], [], M)) rfl rfl rfl (fun c_553 => ?_) (fun c_553 => ?_)
                          · have c_553 : x2 < 182 := of_decide_eq_true c_553
                            exact J_692 
                          · have c_553 : ¬ (x2 < 182) := of_decide_eq_false c_553
                            refine ml_blk 2 (S' := (560, [(0, .ref m0), (1, .int x1), (2, .int x2)], [.int 185, .int x2], M)) rfl ?_
                            refine ml_if2 (S1 := (692, [(0, .ref m0), (1, .int x1), (2, .int x2)], [], M)) (S2 := (563, [(0, .ref m0), (1, .int x1), (2, .int x2)], [], M)) rfl rfl rfl (fun c_560 => ?_) (fun c_560 => ?_)
                            · have c_560 : 185 < x2 := of_decide_eq_true c_560
                              exact J_692 
                            · have c_560 : ¬ (185 < x2) := of_decide_eq_false c_560
                              have h3 : (3 : Int) ≤ nn := iln 3 hln 182 185 (by have := i_nlt c_553; have : (182 : Int32).toInt = 182 := rfl; omega) (by have := i_nlt c_560; have : (185 : Int32).toInt = 185 := rfl; omega) mlk_3_182_185
                              refine ml_blk 3 (S' := (566, [(0, .ref m0), (1, .int x1), (2, .int x2)], [.int 1, .int x1, .ref m0], M)) rfl ?_
                              refine ml_st (S' := (567, [(0, .ref m0), (1, .int x1), (2, .int x2)], [.int (x1 + 1), .ref m0], M)) rfl rfl rfl ?_
                              refine ml_call (a := [.ref m0, .int (x1 + 1)]) (rest := []) rfl (hR.okc rfl rfl rfl) rfl rfl (rm_b2 hR hF hC (by omega) (by omega) (by omega)) (fun v118 M119 h120 => ?_)
                              obtain ⟨rfl, h120⟩ := h120
                              rw [h120]
                              show ml _ _ _ (570, [(0, .ref m0), (1, .int x1), (2, .int x2)], [.int (f2 f (ca + (x1 + 1)))], M) _
                              refine ml_st (S' := (571, [(3, .int (f2 f (ca + (x1 + 1)))), (0, .ref m0), (1, .int x1), (2, .int x2)], [], M)) rfl rfl rfl ?_
                              refine ml_blk 2 (S' := (573, [(3, .int (f2 f (ca + (x1 + 1)))), (0, .ref m0), (1, .int x1), (2, .int x2)], [.int (f2 f (ca + (x1 + 1))), .ref m0], M)) rfl ?_
                              refine ml_call (a := [.ref m0, .int (f2 f (ca + (x1 + 1)))]) (rest := []) rfl (hR.okc rfl rfl rfl) rfl rfl (rm_tag hR hF hP (by omega)) (fun v121 M122 h123 => ?_)
                              obtain ⟨rfl, h123⟩ := h123
                              rw [h123]
                              show ml _ _ _ (576, [(3, .int (f2 f (ca + (x1 + 1)))), (0, .ref m0), (1, .int x1), (2, .int x2)], [.int (tgf f cp pa (f2 f (ca + (x1 + 1))))], M) _
                              refine ml_st (S' := (578, [(4, .int (tgf f cp pa (f2 f (ca + (x1 + 1))))), (3, .int (f2 f (ca + (x1 + 1)))), (0, .ref m0), (1, .int x1), (2, .int x2)], [], M)) rfl rfl rfl ?_
                              refine ml_blk 2 (S' := (582, [(4, .int (tgf f cp pa (f2 f (ca + (x1 + 1))))), (3, .int (f2 f (ca + (x1 + 1)))), (0, .ref m0), (1, .int x1), (2, .int x2)], [.int 185, .int x2], M)) rfl ?_
                              have J_627 : (tgf f cp pa (f2 f (ca + (x1 + 1))) = 10 ∨ tgf f cp pa (f2 f (ca + (x1 + 1))) = 11) → ml (mT g) d (mb_228 g).2 (627, [(0, .ref m0), (1, .int x1), (2, .int x2), (3, .int (f2 f (ca + (x1 + 1))))], [], M) (fun v M' => (∃ x : Int32, v = some (.int x) ∧ (x = 0 ∨ x = 1)) ∧ M' = M) := by
                                intro hj_627
                                have hz7 : tgf f cp pa (f2 f (ca + (x1 + 1))) ≠ 0 := (fun e => by rcases hj_627 with h | h <;> rw [h] at e <;> exact absurd e (by decide))
                                have hE7 := hE (f2 f (ca + (x1 + 1))) hz7
                                have h99 : t9 (tgf f cp pa (f2 f (ca + (x1 + 1)))) := t9_of (Or.inr hj_627)
                                have hi9 := hE7.1.2.2.1 h99
                                have hx17 : ix17 f cp pa (f2 f (ca + (x1 + 1))) := hi9.2.2
                                have hy17 := hP.y hx17.2.2
                                have hmt := hE7.2.2.1 (hj_627.imp id Or.inl)
                                refine ml_blk 2 (S' := (629, [(0, .ref m0), (1, .int x1), (2, .int x2), (3, .int (f2 f (ca + (x1 + 1))))], [.int (f2 f (ca + (x1 + 1))), .ref m0], M)) rfl ?_
                                refine ml_call (a := [.ref m0, .int (f2 f (ca + (x1 + 1)))]) (rest := []) rfl (hR.okc rfl rfl rfl) rfl rfl (rm_nameOf hR hF hP (esz_9 h99) (hz7) (hx17) (by omega)) (fun v124 M125 h126 => ?_)
                                obtain ⟨rfl, h126⟩ := h126
                                rw [h126]
                                show ml _ _ _ (632, [(0, .ref m0), (1, .int x1), (2, .int x2), (3, .int (f2 f (ca + (x1 + 1))))], [.int (pyf py (ixf f pa (ixf f pa (f2 f (ca + (x1 + 1))) 3) 1))], M) _
                                refine ml_st (S' := (633, [(0, .ref m0), (1, .int x1), (2, .int x2), (3, .int (f2 f (ca + (x1 + 1))))], [.ref m0, .int (pyf py (ixf f pa (ixf f pa (f2 f (ca + (x1 + 1))) 3) 1))], M)) rfl rfl rfl ?_
                                refine rg_int (S' := (636, [(0, .ref m0), (1, .int x1), (2, .int x2), (3, .int (f2 f (ca + (x1 + 1))))], [.int si, .int (pyf py (ixf f pa (ixf f pa (f2 f (ca + (x1 + 1))) 3) 1))], M)) rfl hR rfl (hk9) rfl ?_
                                have J_648 : ml (mT g) d (mb_228 g).2 (648, [(0, .ref m0), (1, .int x1), (2, .int x2), (3, .int (f2 f (ca + (x1 + 1))))], [], M) (fun v M' => (∃ x : Int32, v = some (.int x) ∧ (x = 0 ∨ x = 1)) ∧ M' = M) := by
                                  refine ml_blk 2 (S' := (652, [(0, .ref m0), (1, .int x1), (2, .int x2), (3, .int (f2 f (ca + (x1 + 1))))], [.int 185, .int x2], M)) rfl ?_
                                  refine ml_if2 (S1 := (686, [], [], M)) (S2 := (655, [(0, .ref m0), (1, .int x1), (2, .int x2), (3, .int (f2 f (ca + (x1 + 1))))], [], M)) rfl rfl rfl (fun c_652 => ?_) (fun c_652 => ?_)
                                  · have c_652 : ¬ x2 = 185 := of_decide_eq_true c_652
                                    refine ml_st (S' := (687, [], [.int 1], M)) rfl rfl rfl ?_
                                    refine ml_st (S' := (691, [], [.int 1], M)) rfl rfl rfl ?_
                                    exact ml_ret rfl (r_z (Or.inr rfl)) (⟨⟨_, rfl, Or.inr rfl⟩, rfl⟩)
                                  · have c_652 : ¬ (¬ x2 = 185) := of_decide_eq_false c_652
                                    have h5 : (5 : Int) ≤ nn := iln 5 hln 185 185 (by rw [show _ = (185 : Int32) from Decidable.not_not.mp c_652]; decide) (by rw [show _ = (185 : Int32) from Decidable.not_not.mp c_652]; decide) mlk_5_185_185
                                    refine ml_blk 3 (S' := (658, [(0, .ref m0), (1, .int x1), (2, .int x2), (3, .int (f2 f (ca + (x1 + 1))))], [.int 3, .int x1, .ref m0], M)) rfl ?_
                                    refine ml_st (S' := (659, [(0, .ref m0), (1, .int x1), (2, .int x2), (3, .int (f2 f (ca + (x1 + 1))))], [.int (x1 + 3), .ref m0], M)) rfl rfl rfl ?_
                                    refine ml_call (a := [.ref m0, .int (x1 + 3)]) (rest := []) rfl (hR.okc rfl rfl rfl) rfl rfl (rm_b1 hR hF hC (by omega) (by omega) (by omega)) (fun v127 M128 h129 => ?_)
                                    obtain ⟨rfl, h129⟩ := h129
                                    rw [h129]
                                    show ml _ _ _ (662, [(0, .ref m0), (1, .int x1), (2, .int x2), (3, .int (f2 f (ca + (x1 + 1))))], [.int (f1 f (ca + (x1 + 3)))], M) _
                                    refine ml_blk 3 (S' := (665, [(0, .ref m0), (1, .int x1), (2, .int x2), (3, .int (f2 f (ca + (x1 + 1))))], [.int (f2 f (ca + (x1 + 1))), .ref m0, .ref m0, .int (f1 f (ca + (x1 + 3)))], M)) rfl ?_
                                    refine ml_call (a := [.ref m0, .int (f2 f (ca + (x1 + 1)))]) (rest := [.ref m0, .int (f1 f (ca + (x1 + 3)))]) rfl (hR.okc rfl rfl rfl) rfl rfl (rm_descOf hR hF hP (esz_9 h99) (hz7) (hx17) (by omega)) (fun v130 M131 h132 => ?_)
                                    obtain ⟨rfl, h132⟩ := h132
                                    rw [h132]
                                    show ml _ _ _ (668, [(0, .ref m0), (1, .int x1), (2, .int x2), (3, .int (f2 f (ca + (x1 + 1))))], [.int (pyf py (ixf f pa (ixf f pa (f2 f (ca + (x1 + 1))) 3) 3)), .ref m0, .int (f1 f (ca + (x1 + 3)))], M) _
                                    refine ml_call (a := [.ref m0, .int (pyf py (ixf f pa (ixf f pa (f2 f (ca + (x1 + 1))) 3) 3))]) (rest := [.int (f1 f (ca + (x1 + 3)))]) rfl (hR.okc rfl rfl rfl) rfl rfl (rm_places0 hR hY (hy17.2.2.1) (hy17.2.2.2) (hmt.1) (by omega)) (fun v133 M134 h135 => ?_)
                                    obtain ⟨⟨u136, rfl⟩, h135⟩ := h135
                                    rw [h135]
                                    show ml _ _ _ (671, [(0, .ref m0), (1, .int x1), (2, .int x2), (3, .int (f2 f (ca + (x1 + 1))))], [.int u136, .int (f1 f (ca + (x1 + 3)))], M) _
                                    refine ml_blk 2 (S' := (673, [(0, .ref m0), (1, .int x1), (2, .int x2), (3, .int (f2 f (ca + (x1 + 1))))], [.int (u136 + 1), .int (f1 f (ca + (x1 + 3)))], M)) rfl ?_
                                    refine ml_if2 (S1 := (690, [], [], M)) (S2 := (676, [(0, .ref m0), (1, .int x1), (2, .int x2), (3, .int (f2 f (ca + (x1 + 1))))], [], M)) rfl rfl rfl (fun c_673 => ?_) (fun c_673 => ?_)
                                    · have c_673 : ¬ (f1 f (ca + (x1 + 3))) = (u136 + 1) := of_decide_eq_true c_673
                                      refine ml_st (S' := (691, [], [.int 0], M)) rfl rfl rfl ?_
                                      exact ml_ret rfl (r_z (Or.inl rfl)) (⟨⟨_, rfl, Or.inl rfl⟩, rfl⟩)
                                    · have c_673 : ¬ (¬ (f1 f (ca + (x1 + 3))) = (u136 + 1)) := of_decide_eq_false c_673
                                      refine ml_blk 3 (S' := (679, [(0, .ref m0), (1, .int x1), (2, .int x2), (3, .int (f2 f (ca + (x1 + 1))))], [.int 4, .int x1, .ref m0], M)) rfl ?_
                                      refine ml_st (S' := (680, [(0, .ref m0), (1, .int x1), (2, .int x2), (3, .int (f2 f (ca + (x1 + 1))))], [.int (x1 + 4), .ref m0], M)) rfl rfl rfl ?_
                                      refine ml_call (a := [.ref m0, .int (x1 + 4)]) (rest := []) rfl (hR.okc rfl rfl rfl) rfl rfl (rm_b1 hR hF hC (by omega) (by omega) (by omega)) (fun v137 M138 h139 => ?_)
                                      obtain ⟨rfl, h139⟩ := h139
                                      rw [h139]
                                      show ml _ _ _ (683, [(0, .ref m0), (1, .int x1), (2, .int x2), (3, .int (f2 f (ca + (x1 + 1))))], [.int (f1 f (ca + (x1 + 4)))], M) _
                                      refine ml_if (S1 := (690, [], [], M)) (S2 := (686, [], [], M)) rfl rfl rfl (fun c_683 => ?_) (fun c_683 => ?_)
                                      · have c_683 : ¬ (f1 f (ca + (x1 + 4))) = 0 := of_decide_eq_true c_683
                                        refine ml_st (S' := (691, [], [.int 0], M)) rfl rfl rfl ?_
                                        exact ml_ret rfl (r_z (Or.inl rfl)) (⟨⟨_, rfl, Or.inl rfl⟩, rfl⟩)
                                      · have c_683 : ¬ (¬ (f1 f (ca + (x1 + 4))) = 0) := of_decide_eq_false c_683
                                        refine ml_st (S' := (687, [], [.int 1], M)) rfl rfl rfl ?_
                                        refine ml_st (S' := (691, [], [.int 1], M)) rfl rfl rfl ?_
                                        exact ml_ret rfl (r_z (Or.inr rfl)) (⟨⟨_, rfl, Or.inr rfl⟩, rfl⟩)
                                refine ml_if2 (S1 := (648, [(0, .ref m0), (1, .int x1), (2, .int x2), (3, .int (f2 f (ca + (x1 + 1))))], [], M)) (S2 := (639, [(0, .ref m0), (1, .int x1), (2, .int x2), (3, .int (f2 f (ca + (x1 + 1))))], [], M)) rfl rfl rfl (fun c_636 => ?_) (fun c_636 => ?_)
                                · have c_636 : ¬ (pyf py (ixf f pa (ixf f pa (f2 f (ca + (x1 + 1))) 3) 1)) = si := of_decide_eq_true c_636
                                  exact J_648 
                                · have c_636 : ¬ (¬ (pyf py (ixf f pa (ixf f pa (f2 f (ca + (x1 + 1))) 3) 1)) = si) := of_decide_eq_false c_636
                                  refine ml_blk 2 (S' := (643, [(0, .ref m0), (1, .int x1), (2, .int x2), (3, .int (f2 f (ca + (x1 + 1))))], [.int 183, .int x2], M)) rfl ?_
                                  refine ml_if2 (S1 := (648, [(0, .ref m0), (1, .int x1), (2, .int x2), (3, .int (f2 f (ca + (x1 + 1))))], [], M)) (S2 := (646, [(0, .ref m0), (1, .int x1), (2, .int x2), (3, .int (f2 f (ca + (x1 + 1))))], [], M)) rfl rfl rfl (fun c_643 => ?_) (fun c_643 => ?_)
                                  · have c_643 : x2 = 183 := of_decide_eq_true c_643
                                    exact J_648 
                                  · have c_643 : ¬ (x2 = 183) := of_decide_eq_false c_643
                                    refine ml_st (S' := (647, [(0, .ref m0), (1, .int x1), (2, .int x2), (3, .int (f2 f (ca + (x1 + 1))))], [.int 0], M)) rfl rfl rfl ?_
                                    exact ml_ret rfl (r_z (Or.inl rfl)) (⟨⟨_, rfl, Or.inl rfl⟩, rfl⟩)
                              refine ml_if2 (S1 := (595, [(4, .int (tgf f cp pa (f2 f (ca + (x1 + 1))))), (3, .int (f2 f (ca + (x1 + 1)))), (0, .ref m0), (1, .int x1), (2, .int x2)], [], M)) (S2 := (585, [(4, .int (tgf f cp pa (f2 f (ca + (x1 + 1))))), (3, .int (f2 f (ca + (x1 + 1)))), (0, .ref m0), (1, .int x1), (2, .int x2)], [], M)) rfl rfl rfl (fun c_582 => ?_) (fun c_582 => ?_)
                              · have c_582 : ¬ x2 = 185 := of_decide_eq_true c_582
                                refine ml_blk 2 (S' := (599, [(4, .int (tgf f cp pa (f2 f (ca + (x1 + 1))))), (3, .int (f2 f (ca + (x1 + 1)))), (0, .ref m0), (1, .int x1), (2, .int x2)], [.int 10, .int (tgf f cp pa (f2 f (ca + (x1 + 1))))], M)) rfl ?_
                                refine ml_if2 (S1 := (627, [(0, .ref m0), (1, .int x1), (2, .int x2), (3, .int (f2 f (ca + (x1 + 1))))], [], M)) (S2 := (602, [(4, .int (tgf f cp pa (f2 f (ca + (x1 + 1))))), (3, .int (f2 f (ca + (x1 + 1)))), (0, .ref m0), (1, .int x1), (2, .int x2)], [], M)) rfl rfl rfl (fun c_599 => ?_) (fun c_599 => ?_)
                                · have c_599 : (tgf f cp pa (f2 f (ca + (x1 + 1)))) = 10 := of_decide_eq_true c_599
                                  exact J_627  (Or.inl c_599)
                                · have c_599 : ¬ ((tgf f cp pa (f2 f (ca + (x1 + 1)))) = 10) := of_decide_eq_false c_599
                                  refine ml_blk 2 (S' := (606, [(4, .int (tgf f cp pa (f2 f (ca + (x1 + 1))))), (3, .int (f2 f (ca + (x1 + 1)))), (0, .ref m0), (1, .int x1), (2, .int x2)], [.int 182, .int x2], M)) rfl ?_
                                  refine ml_if2 (S1 := (625, [], [], M)) (S2 := (609, [(4, .int (tgf f cp pa (f2 f (ca + (x1 + 1))))), (3, .int (f2 f (ca + (x1 + 1)))), (0, .ref m0), (1, .int x1), (2, .int x2)], [], M)) rfl rfl rfl (fun c_606 => ?_) (fun c_606 => ?_)
                                  · have c_606 : x2 = 182 := of_decide_eq_true c_606
                                    refine ml_st (S' := (626, [], [.int 0], M)) rfl rfl rfl ?_
                                    exact ml_ret rfl (r_z (Or.inl rfl)) (⟨⟨_, rfl, Or.inl rfl⟩, rfl⟩)
                                  · have c_606 : ¬ (x2 = 182) := of_decide_eq_false c_606
                                    refine ml_blk 2 (S' := (613, [(4, .int (tgf f cp pa (f2 f (ca + (x1 + 1))))), (3, .int (f2 f (ca + (x1 + 1)))), (0, .ref m0), (1, .int x1), (2, .int x2)], [.int 11, .int (tgf f cp pa (f2 f (ca + (x1 + 1))))], M)) rfl ?_
                                    refine ml_if2 (S1 := (625, [], [], M)) (S2 := (616, [(4, .int (tgf f cp pa (f2 f (ca + (x1 + 1))))), (3, .int (f2 f (ca + (x1 + 1)))), (0, .ref m0), (1, .int x1), (2, .int x2)], [], M)) rfl rfl rfl (fun c_613 => ?_) (fun c_613 => ?_)
                                    · have c_613 : ¬ (tgf f cp pa (f2 f (ca + (x1 + 1)))) = 11 := of_decide_eq_true c_613
                                      refine ml_st (S' := (626, [], [.int 0], M)) rfl rfl rfl ?_
                                      exact ml_ret rfl (r_z (Or.inl rfl)) (⟨⟨_, rfl, Or.inl rfl⟩, rfl⟩)
                                    · have c_613 : ¬ (¬ (tgf f cp pa (f2 f (ca + (x1 + 1)))) = 11) := of_decide_eq_false c_613
                                      refine ml_st (S' := (617, [(4, .int (tgf f cp pa (f2 f (ca + (x1 + 1))))), (3, .int (f2 f (ca + (x1 + 1)))), (0, .ref m0), (1, .int x1), (2, .int x2)], [.ref m0], M)) rfl rfl rfl ?_
                                      refine rg_int (S' := (620, [(4, .int (tgf f cp pa (f2 f (ca + (x1 + 1))))), (3, .int (f2 f (ca + (x1 + 1)))), (0, .ref m0), (1, .int x1), (2, .int x2)], [.int mj], M)) rfl hR rfl (hP.2.2.1) rfl ?_
                                      refine ml_st (S' := (622, [(4, .int (tgf f cp pa (f2 f (ca + (x1 + 1))))), (3, .int (f2 f (ca + (x1 + 1)))), (0, .ref m0), (1, .int x1), (2, .int x2)], [.int 52, .int mj], M)) rfl rfl rfl ?_
                                      refine ml_if2 (S1 := (627, [(0, .ref m0), (1, .int x1), (2, .int x2), (3, .int (f2 f (ca + (x1 + 1))))], [], M)) (S2 := (625, [], [], M)) rfl rfl rfl (fun c_622 => ?_) (fun c_622 => ?_)
                                      · have c_622 : 52 ≤ mj := of_decide_eq_true c_622
                                        exact J_627  (Or.inr (Decidable.not_not.mp c_613))
                                      · have c_622 : ¬ (52 ≤ mj) := of_decide_eq_false c_622
                                        refine ml_st (S' := (626, [], [.int 0], M)) rfl rfl rfl ?_
                                        exact ml_ret rfl (r_z (Or.inl rfl)) (⟨⟨_, rfl, Or.inl rfl⟩, rfl⟩)
                              · have c_582 : ¬ (¬ x2 = 185) := of_decide_eq_false c_582
                                refine ml_blk 2 (S' := (589, [(4, .int (tgf f cp pa (f2 f (ca + (x1 + 1))))), (3, .int (f2 f (ca + (x1 + 1)))), (0, .ref m0), (1, .int x1), (2, .int x2)], [.int 11, .int (tgf f cp pa (f2 f (ca + (x1 + 1))))], M)) rfl ?_
                                refine ml_if2 (S1 := (625, [], [], M)) (S2 := (592, [(4, .int (tgf f cp pa (f2 f (ca + (x1 + 1))))), (3, .int (f2 f (ca + (x1 + 1)))), (0, .ref m0), (1, .int x1), (2, .int x2)], [], M)) rfl rfl rfl (fun c_589 => ?_) (fun c_589 => ?_)
                                · have c_589 : ¬ (tgf f cp pa (f2 f (ca + (x1 + 1)))) = 11 := of_decide_eq_true c_589
                                  refine ml_st (S' := (626, [], [.int 0], M)) rfl rfl rfl ?_
                                  exact ml_ret rfl (r_z (Or.inl rfl)) (⟨⟨_, rfl, Or.inl rfl⟩, rfl⟩)
                                · have c_589 : ¬ (¬ (tgf f cp pa (f2 f (ca + (x1 + 1)))) = 11) := of_decide_eq_false c_589
                                  refine ml_st (S' := (627, [(0, .ref m0), (1, .int x1), (2, .int x2), (3, .int (f2 f (ca + (x1 + 1))))], [], M)) rfl rfl rfl ?_
                                  exact J_627  (Or.inr (Decidable.not_not.mp c_589))
                        refine ml_if2 (S1 := (549, [(0, .ref m0), (1, .int x1), (2, .int x2)], [], M)) (S2 := (520, [(0, .ref m0), (1, .int x1), (2, .int x2)], [], M)) rfl rfl rfl (fun c_517 => ?_) (fun c_517 => ?_)
                        · have c_517 : x2 < 178 := of_decide_eq_true c_517
                          exact J_549 
                        · have c_517 : ¬ (x2 < 178) := of_decide_eq_false c_517
                          refine ml_blk 2 (S' := (524, [(0, .ref m0), (1, .int x1), (2, .int x2)], [.int 181, .int x2], M)) rfl ?_
                          refine ml_if2 (S1 := (549, [(0, .ref m0), (1, .int x1), (2, .int x2)], [], M)) (S2 := (527, [(0, .ref m0), (1, .int x1), (2, .int x2)], [], M)) rfl rfl rfl (fun c_524 => ?_) (fun c_524 => ?_)
                          · have c_524 : 181 < x2 := of_decide_eq_true c_524
                            exact J_549 
                          · have c_524 : ¬ (181 < x2) := of_decide_eq_false c_524
                            have h3 : (3 : Int) ≤ nn := iln 3 hln 178 181 (by have := i_nlt c_517; have : (178 : Int32).toInt = 178 := rfl; omega) (by have := i_nlt c_524; have : (181 : Int32).toInt = 181 := rfl; omega) mlk_3_178_181
                            refine ml_blk 3 (S' := (530, [(0, .ref m0), (1, .int x1), (2, .int x2)], [.int x1, .ref m0, .ref m0], M)) rfl ?_
                            refine ml_blk 2 (S' := (532, [(0, .ref m0), (1, .int x1), (2, .int x2)], [.int (x1 + 1), .ref m0, .ref m0], M)) rfl ?_
                            refine ml_call (a := [.ref m0, .int (x1 + 1)]) (rest := [.ref m0]) rfl (hR.okc rfl rfl rfl) rfl rfl (rm_b2 hR hF hC (by omega) (by omega) (by omega)) (fun v140 M141 h142 => ?_)
                            obtain ⟨rfl, h142⟩ := h142
                            rw [h142]
                            show ml _ _ _ (535, [(0, .ref m0), (1, .int x1), (2, .int x2)], [.int (f2 f (ca + (x1 + 1))), .ref m0], M) _
                            refine ml_call (a := [.ref m0, .int (f2 f (ca + (x1 + 1)))]) (rest := []) rfl (hR.okc rfl rfl rfl) rfl rfl (rm_tag hR hF hP (by omega)) (fun v143 M144 h145 => ?_)
                            obtain ⟨rfl, h145⟩ := h145
                            rw [h145]
                            show ml _ _ _ (538, [(0, .ref m0), (1, .int x1), (2, .int x2)], [.int (tgf f cp pa (f2 f (ca + (x1 + 1))))], M) _
                            refine ml_st (S' := (540, [(0, .ref m0), (1, .int x1), (2, .int x2)], [.int 9, .int (tgf f cp pa (f2 f (ca + (x1 + 1))))], M)) rfl rfl rfl ?_
                            refine ml_if2 (S1 := (547, [(0, .ref m0), (1, .int x1), (2, .int x2)], [], M)) (S2 := (543, [(0, .ref m0), (1, .int x1), (2, .int x2)], [], M)) rfl rfl rfl (fun c_540 => ?_) (fun c_540 => ?_)
                            · have c_540 : ¬ (tgf f cp pa (f2 f (ca + (x1 + 1)))) = 9 := of_decide_eq_true c_540
                              refine ml_st (S' := (548, [], [.int 0], M)) rfl rfl rfl ?_
                              exact ml_ret rfl (r_z (Or.inl rfl)) (⟨⟨_, rfl, Or.inl rfl⟩, rfl⟩)
                            · have c_540 : ¬ (¬ (tgf f cp pa (f2 f (ca + (x1 + 1)))) = 9) := of_decide_eq_false c_540
                              refine ml_st (S' := (544, [(0, .ref m0), (1, .int x1), (2, .int x2)], [.int 1], M)) rfl rfl rfl ?_
                              refine ml_st (S' := (548, [], [.int 1], M)) rfl rfl rfl ?_
                              exact ml_ret rfl (r_z (Or.inr rfl)) (⟨⟨_, rfl, Or.inr rfl⟩, rfl⟩)
                      refine ml_if2 (S1 := (513, [(0, .ref m0), (1, .int x1), (2, .int x2)], [], M)) (S2 := (338, [(0, .ref m0), (1, .int x1), (2, .int x2)], [], M)) rfl rfl rfl (fun c_335 => ?_) (fun c_335 => ?_)
                      · have c_335 : x2 < 18 := of_decide_eq_true c_335
                        exact J_513 
                      · have c_335 : ¬ (x2 < 18) := of_decide_eq_false c_335
                        refine ml_blk 2 (S' := (341, [(0, .ref m0), (1, .int x1), (2, .int x2)], [.int 20, .int x2], M)) rfl ?_
                        refine ml_if2 (S1 := (513, [(0, .ref m0), (1, .int x1), (2, .int x2)], [], M)) (S2 := (344, [(0, .ref m0), (1, .int x1), (2, .int x2)], [], M)) rfl rfl rfl (fun c_341 => ?_) (fun c_341 => ?_)
                        · have c_341 : 20 < x2 := of_decide_eq_true c_341
                          exact J_513 
                        · have c_341 : ¬ (20 < x2) := of_decide_eq_false c_341
                          refine ml_blk 2 (S' := (347, [(0, .ref m0), (1, .int x1), (2, .int x2)], [.int 18, .int x2], M)) rfl ?_
                          have J_367 : ∀ (s367_0 : Int32), ml (mT g) d (mb_228 g).2 (367, [(0, .ref m0), (2, .int x2)], [.int s367_0], M) (fun v M' => (∃ x : Int32, v = some (.int x) ∧ (x = 0 ∨ x = 1)) ∧ M' = M) := by
                            intro s367_0
                            refine ml_st (S' := (368, [(3, .int s367_0), (0, .ref m0), (2, .int x2)], [], M)) rfl rfl rfl ?_
                            refine ml_blk 2 (S' := (370, [(3, .int s367_0), (0, .ref m0), (2, .int x2)], [.int s367_0, .ref m0], M)) rfl ?_
                            refine ml_call (a := [.ref m0, .int s367_0]) (rest := []) rfl (hR.okc rfl rfl rfl) rfl rfl (rm_tag hR hF hP (by omega)) (fun v146 M147 h148 => ?_)
                            obtain ⟨rfl, h148⟩ := h148
                            rw [h148]
                            show ml _ _ _ (373, [(3, .int s367_0), (0, .ref m0), (2, .int x2)], [.int (tgf f cp pa s367_0)], M) _
                            refine ml_st (S' := (375, [(4, .int (tgf f cp pa s367_0)), (3, .int s367_0), (0, .ref m0), (2, .int x2)], [], M)) rfl rfl rfl ?_
                            refine ml_blk 2 (S' := (378, [(4, .int (tgf f cp pa s367_0)), (3, .int s367_0), (0, .ref m0), (2, .int x2)], [.int 20, .int x2], M)) rfl ?_
                            refine ml_if2 (S1 := (420, [(4, .int (tgf f cp pa s367_0)), (3, .int s367_0), (0, .ref m0), (2, .int x2)], [], M)) (S2 := (381, [(4, .int (tgf f cp pa s367_0)), (3, .int s367_0), (0, .ref m0), (2, .int x2)], [], M)) rfl rfl rfl (fun c_378 => ?_) (fun c_378 => ?_)
                            · have c_378 : ¬ x2 = 20 := of_decide_eq_true c_378
                              refine ml_blk 2 (S' := (423, [(4, .int (tgf f cp pa s367_0)), (3, .int s367_0), (0, .ref m0), (2, .int x2)], [.int 3, .int (tgf f cp pa s367_0)], M)) rfl ?_
                              refine ml_if2 (S1 := (507, [], [], M)) (S2 := (426, [(4, .int (tgf f cp pa s367_0)), (3, .int s367_0), (0, .ref m0), (2, .int x2)], [], M)) rfl rfl rfl (fun c_423 => ?_) (fun c_423 => ?_)
                              · have c_423 : (tgf f cp pa s367_0) = 3 := of_decide_eq_true c_423
                                refine ml_st (S' := (508, [], [.int 1], M)) rfl rfl rfl ?_
                                refine ml_st (S' := (512, [], [.int 1], M)) rfl rfl rfl ?_
                                exact ml_ret rfl (r_z (Or.inr rfl)) (⟨⟨_, rfl, Or.inr rfl⟩, rfl⟩)
                              · have c_423 : ¬ ((tgf f cp pa s367_0) = 3) := of_decide_eq_false c_423
                                refine ml_blk 2 (S' := (429, [(4, .int (tgf f cp pa s367_0)), (3, .int s367_0), (0, .ref m0), (2, .int x2)], [.int 4, .int (tgf f cp pa s367_0)], M)) rfl ?_
                                refine ml_if2 (S1 := (507, [], [], M)) (S2 := (432, [(4, .int (tgf f cp pa s367_0)), (3, .int s367_0), (0, .ref m0), (2, .int x2)], [], M)) rfl rfl rfl (fun c_429 => ?_) (fun c_429 => ?_)
                                · have c_429 : (tgf f cp pa s367_0) = 4 := of_decide_eq_true c_429
                                  refine ml_st (S' := (508, [], [.int 1], M)) rfl rfl rfl ?_
                                  refine ml_st (S' := (512, [], [.int 1], M)) rfl rfl rfl ?_
                                  exact ml_ret rfl (r_z (Or.inr rfl)) (⟨⟨_, rfl, Or.inr rfl⟩, rfl⟩)
                                · have c_429 : ¬ ((tgf f cp pa s367_0) = 4) := of_decide_eq_false c_429
                                  refine ml_blk 2 (S' := (436, [(4, .int (tgf f cp pa s367_0)), (3, .int s367_0), (0, .ref m0), (2, .int x2)], [.int 8, .int (tgf f cp pa s367_0)], M)) rfl ?_
                                  refine ml_if2 (S1 := (507, [], [], M)) (S2 := (439, [(4, .int (tgf f cp pa s367_0)), (3, .int s367_0), (0, .ref m0), (2, .int x2)], [], M)) rfl rfl rfl (fun c_436 => ?_) (fun c_436 => ?_)
                                  · have c_436 : (tgf f cp pa s367_0) = 8 := of_decide_eq_true c_436
                                    refine ml_st (S' := (508, [], [.int 1], M)) rfl rfl rfl ?_
                                    refine ml_st (S' := (512, [], [.int 1], M)) rfl rfl rfl ?_
                                    exact ml_ret rfl (r_z (Or.inr rfl)) (⟨⟨_, rfl, Or.inr rfl⟩, rfl⟩)
                                  · have c_436 : ¬ ((tgf f cp pa s367_0) = 8) := of_decide_eq_false c_436
                                    refine ml_blk 2 (S' := (443, [(4, .int (tgf f cp pa s367_0)), (3, .int s367_0), (0, .ref m0), (2, .int x2)], [.int 7, .int (tgf f cp pa s367_0)], M)) rfl ?_
                                    have J_455 : ml (mT g) d (mb_228 g).2 (455, [(0, .ref m0), (3, .int s367_0), (4, .int (tgf f cp pa s367_0))], [], M) (fun v M' => (∃ x : Int32, v = some (.int x) ∧ (x = 0 ∨ x = 1)) ∧ M' = M) := by
                                      refine ml_blk 2 (S' := (459, [(0, .ref m0), (3, .int s367_0), (4, .int (tgf f cp pa s367_0))], [.int 15, .int (tgf f cp pa s367_0)], M)) rfl ?_
                                      have J_478 : ml (mT g) d (mb_228 g).2 (478, [(0, .ref m0), (3, .int s367_0), (4, .int (tgf f cp pa s367_0))], [], M) (fun v M' => (∃ x : Int32, v = some (.int x) ∧ (x = 0 ∨ x = 1)) ∧ M' = M) := by
                                        refine ml_blk 2 (S' := (482, [(0, .ref m0), (3, .int s367_0), (4, .int (tgf f cp pa s367_0))], [.int 17, .int (tgf f cp pa s367_0)], M)) rfl ?_
                                        refine ml_if2 (S1 := (511, [], [], M)) (S2 := (485, [(0, .ref m0), (3, .int s367_0), (4, .int (tgf f cp pa s367_0))], [], M)) rfl rfl rfl (fun c_482 => ?_) (fun c_482 => ?_)
                                        · have c_482 : ¬ (tgf f cp pa s367_0) = 17 := of_decide_eq_true c_482
                                          refine ml_st (S' := (512, [], [.int 0], M)) rfl rfl rfl ?_
                                          exact ml_ret rfl (r_z (Or.inl rfl)) (⟨⟨_, rfl, Or.inl rfl⟩, rfl⟩)
                                        · have c_482 : ¬ (¬ (tgf f cp pa s367_0) = 17) := of_decide_eq_false c_482
                                          refine ml_st (S' := (486, [(0, .ref m0), (3, .int s367_0), (4, .int (tgf f cp pa s367_0))], [.ref m0], M)) rfl rfl rfl ?_
                                          refine rg_int (S' := (489, [(0, .ref m0), (3, .int s367_0), (4, .int (tgf f cp pa s367_0))], [.int mj], M)) rfl hR rfl (hP.2.2.1) rfl ?_
                                          refine ml_st (S' := (491, [(0, .ref m0), (3, .int s367_0), (4, .int (tgf f cp pa s367_0))], [.int 55, .int mj], M)) rfl rfl rfl ?_
                                          refine ml_if2 (S1 := (511, [], [], M)) (S2 := (494, [(0, .ref m0), (3, .int s367_0), (4, .int (tgf f cp pa s367_0))], [], M)) rfl rfl rfl (fun c_491 => ?_) (fun c_491 => ?_)
                                          · have c_491 : mj < 55 := of_decide_eq_true c_491
                                            refine ml_st (S' := (512, [], [.int 0], M)) rfl rfl rfl ?_
                                            exact ml_ret rfl (r_z (Or.inl rfl)) (⟨⟨_, rfl, Or.inl rfl⟩, rfl⟩)
                                          · have c_491 : ¬ (mj < 55) := of_decide_eq_false c_491
                                            have t17 : tgf f cp pa s367_0 = 17 := Decidable.not_not.mp c_482
                                            have hE7 := hE s367_0 (by rw [t17]; decide)
                                            have hx17 := hE7.1.2.2.2.2 (Or.inl t17)
                                            have hy17 := hP.y hx17.2.2
                                            refine ml_blk 3 (S' := (497, [(0, .ref m0), (3, .int s367_0), (4, .int (tgf f cp pa s367_0))], [.int s367_0, .ref m0, .ref m0], M)) rfl ?_
                                            refine ml_call (a := [.ref m0, .int s367_0]) (rest := [.ref m0]) rfl (hR.okc rfl rfl rfl) rfl rfl (rm_descOf hR hF hP (by rw [t17]; rfl) (by rw [t17]; decide) (hx17) (by omega)) (fun v149 M150 h151 => ?_)
                                            obtain ⟨rfl, h151⟩ := h151
                                            rw [h151]
                                            show ml _ _ _ (500, [(0, .ref m0), (3, .int s367_0), (4, .int (tgf f cp pa s367_0))], [.int (pyf py (ixf f pa (ixf f pa s367_0 3) 3)), .ref m0], M) _
                                            refine ml_st (S' := (501, [(0, .ref m0), (3, .int s367_0), (4, .int (tgf f cp pa s367_0))], [.int 0, .int (pyf py (ixf f pa (ixf f pa s367_0 3) 3)), .ref m0], M)) rfl rfl rfl ?_
                                            refine ml_call (a := [.ref m0, .int (pyf py (ixf f pa (ixf f pa s367_0 3) 3)), .int 0]) (rest := []) rfl (hR.okc rfl rfl rfl) rfl rfl (rm_wide hR hY (hy17.2.2.1) (hy17.2.2.2) (by decide) (by have q := hE7.2.2.2 t17; have : (0 : Int32).toInt = 0 := rfl; omega) (by omega)) (fun v152 M153 h154 => ?_)
                                            obtain ⟨⟨u155, rfl, z156⟩, h154⟩ := h154
                                            rw [h154]
                                            show ml _ _ _ (504, [(0, .ref m0), (3, .int s367_0), (4, .int (tgf f cp pa s367_0))], [.int u155], M) _
                                            refine ml_if (S1 := (511, [], [], M)) (S2 := (507, [], [], M)) rfl rfl rfl (fun c_504 => ?_) (fun c_504 => ?_)
                                            · have c_504 : ¬ u155 = 0 := of_decide_eq_true c_504
                                              refine ml_st (S' := (512, [], [.int 0], M)) rfl rfl rfl ?_
                                              exact ml_ret rfl (r_z (Or.inl rfl)) (⟨⟨_, rfl, Or.inl rfl⟩, rfl⟩)
                                            · have c_504 : ¬ (¬ u155 = 0) := of_decide_eq_false c_504
                                              refine ml_st (S' := (508, [], [.int 1], M)) rfl rfl rfl ?_
                                              refine ml_st (S' := (512, [], [.int 1], M)) rfl rfl rfl ?_
                                              exact ml_ret rfl (r_z (Or.inr rfl)) (⟨⟨_, rfl, Or.inr rfl⟩, rfl⟩)
                                      have J_469 : ml (mT g) d (mb_228 g).2 (469, [(0, .ref m0), (3, .int s367_0), (4, .int (tgf f cp pa s367_0))], [], M) (fun v M' => (∃ x : Int32, v = some (.int x) ∧ (x = 0 ∨ x = 1)) ∧ M' = M) := by
                                        refine ml_st (S' := (470, [(0, .ref m0), (3, .int s367_0), (4, .int (tgf f cp pa s367_0))], [.ref m0], M)) rfl rfl rfl ?_
                                        refine rg_int (S' := (473, [(0, .ref m0), (3, .int s367_0), (4, .int (tgf f cp pa s367_0))], [.int mj], M)) rfl hR rfl (hP.2.2.1) rfl ?_
                                        refine ml_st (S' := (475, [(0, .ref m0), (3, .int s367_0), (4, .int (tgf f cp pa s367_0))], [.int 51, .int mj], M)) rfl rfl rfl ?_
                                        refine ml_if2 (S1 := (507, [], [], M)) (S2 := (478, [(0, .ref m0), (3, .int s367_0), (4, .int (tgf f cp pa s367_0))], [], M)) rfl rfl rfl (fun c_475 => ?_) (fun c_475 => ?_)
                                        · have c_475 : 51 ≤ mj := of_decide_eq_true c_475
                                          refine ml_st (S' := (508, [], [.int 1], M)) rfl rfl rfl ?_
                                          refine ml_st (S' := (512, [], [.int 1], M)) rfl rfl rfl ?_
                                          exact ml_ret rfl (r_z (Or.inr rfl)) (⟨⟨_, rfl, Or.inr rfl⟩, rfl⟩)
                                        · have c_475 : ¬ (51 ≤ mj) := of_decide_eq_false c_475
                                          exact J_478 
                                      refine ml_if2 (S1 := (469, [(0, .ref m0), (3, .int s367_0), (4, .int (tgf f cp pa s367_0))], [], M)) (S2 := (462, [(0, .ref m0), (3, .int s367_0), (4, .int (tgf f cp pa s367_0))], [], M)) rfl rfl rfl (fun c_459 => ?_) (fun c_459 => ?_)
                                      · have c_459 : (tgf f cp pa s367_0) = 15 := of_decide_eq_true c_459
                                        exact J_469 
                                      · have c_459 : ¬ ((tgf f cp pa s367_0) = 15) := of_decide_eq_false c_459
                                        refine ml_blk 2 (S' := (466, [(0, .ref m0), (3, .int s367_0), (4, .int (tgf f cp pa s367_0))], [.int 16, .int (tgf f cp pa s367_0)], M)) rfl ?_
                                        refine ml_if2 (S1 := (478, [(0, .ref m0), (3, .int s367_0), (4, .int (tgf f cp pa s367_0))], [], M)) (S2 := (469, [(0, .ref m0), (3, .int s367_0), (4, .int (tgf f cp pa s367_0))], [], M)) rfl rfl rfl (fun c_466 => ?_) (fun c_466 => ?_)
                                        · have c_466 : ¬ (tgf f cp pa s367_0) = 16 := of_decide_eq_true c_466
                                          exact J_478 
                                        · have c_466 : ¬ (¬ (tgf f cp pa s367_0) = 16) := of_decide_eq_false c_466
                                          exact J_469 
                                    refine ml_if2 (S1 := (455, [(0, .ref m0), (3, .int s367_0), (4, .int (tgf f cp pa s367_0))], [], M)) (S2 := (446, [(4, .int (tgf f cp pa s367_0)), (3, .int s367_0), (0, .ref m0), (2, .int x2)], [], M)) rfl rfl rfl (fun c_443 => ?_) (fun c_443 => ?_)
                                    · have c_443 : ¬ (tgf f cp pa s367_0) = 7 := of_decide_eq_true c_443
                                      exact J_455 
                                    · have c_443 : ¬ (¬ (tgf f cp pa s367_0) = 7) := of_decide_eq_false c_443
                                      refine ml_st (S' := (447, [(4, .int (tgf f cp pa s367_0)), (3, .int s367_0), (0, .ref m0), (2, .int x2)], [.ref m0], M)) rfl rfl rfl ?_
                                      refine rg_int (S' := (450, [(4, .int (tgf f cp pa s367_0)), (3, .int s367_0), (0, .ref m0), (2, .int x2)], [.int mj], M)) rfl hR rfl (hP.2.2.1) rfl ?_
                                      refine ml_st (S' := (452, [(4, .int (tgf f cp pa s367_0)), (3, .int s367_0), (0, .ref m0), (2, .int x2)], [.int 49, .int mj], M)) rfl rfl rfl ?_
                                      refine ml_if2 (S1 := (507, [], [], M)) (S2 := (455, [(0, .ref m0), (3, .int s367_0), (4, .int (tgf f cp pa s367_0))], [], M)) rfl rfl rfl (fun c_452 => ?_) (fun c_452 => ?_)
                                      · have c_452 : 49 ≤ mj := of_decide_eq_true c_452
                                        refine ml_st (S' := (508, [], [.int 1], M)) rfl rfl rfl ?_
                                        refine ml_st (S' := (512, [], [.int 1], M)) rfl rfl rfl ?_
                                        exact ml_ret rfl (r_z (Or.inr rfl)) (⟨⟨_, rfl, Or.inr rfl⟩, rfl⟩)
                                      · have c_452 : ¬ (49 ≤ mj) := of_decide_eq_false c_452
                                        exact J_455 
                            · have c_378 : ¬ (¬ x2 = 20) := of_decide_eq_false c_378
                              refine ml_blk 2 (S' := (384, [(4, .int (tgf f cp pa s367_0)), (3, .int s367_0), (0, .ref m0), (2, .int x2)], [.int 5, .int (tgf f cp pa s367_0)], M)) rfl ?_
                              refine ml_if2 (S1 := (414, [], [], M)) (S2 := (387, [(4, .int (tgf f cp pa s367_0)), (3, .int s367_0), (0, .ref m0), (2, .int x2)], [], M)) rfl rfl rfl (fun c_384 => ?_) (fun c_384 => ?_)
                              · have c_384 : (tgf f cp pa s367_0) = 5 := of_decide_eq_true c_384
                                refine ml_st (S' := (415, [], [.int 1], M)) rfl rfl rfl ?_
                                refine ml_st (S' := (419, [], [.int 1], M)) rfl rfl rfl ?_
                                exact ml_ret rfl (r_z (Or.inr rfl)) (⟨⟨_, rfl, Or.inr rfl⟩, rfl⟩)
                              · have c_384 : ¬ ((tgf f cp pa s367_0) = 5) := of_decide_eq_false c_384
                                refine ml_blk 2 (S' := (391, [(4, .int (tgf f cp pa s367_0)), (3, .int s367_0), (0, .ref m0), (2, .int x2)], [.int 6, .int (tgf f cp pa s367_0)], M)) rfl ?_
                                refine ml_if2 (S1 := (414, [], [], M)) (S2 := (394, [(4, .int (tgf f cp pa s367_0)), (3, .int s367_0), (0, .ref m0), (2, .int x2)], [], M)) rfl rfl rfl (fun c_391 => ?_) (fun c_391 => ?_)
                                · have c_391 : (tgf f cp pa s367_0) = 6 := of_decide_eq_true c_391
                                  refine ml_st (S' := (415, [], [.int 1], M)) rfl rfl rfl ?_
                                  refine ml_st (S' := (419, [], [.int 1], M)) rfl rfl rfl ?_
                                  exact ml_ret rfl (r_z (Or.inr rfl)) (⟨⟨_, rfl, Or.inr rfl⟩, rfl⟩)
                                · have c_391 : ¬ ((tgf f cp pa s367_0) = 6) := of_decide_eq_false c_391
                                  refine ml_blk 2 (S' := (398, [(4, .int (tgf f cp pa s367_0)), (3, .int s367_0), (0, .ref m0), (2, .int x2)], [.int 17, .int (tgf f cp pa s367_0)], M)) rfl ?_
                                  refine ml_if2 (S1 := (418, [], [], M)) (S2 := (401, [(4, .int (tgf f cp pa s367_0)), (3, .int s367_0), (0, .ref m0), (2, .int x2)], [], M)) rfl rfl rfl (fun c_398 => ?_) (fun c_398 => ?_)
                                  · have c_398 : ¬ (tgf f cp pa s367_0) = 17 := of_decide_eq_true c_398
                                    refine ml_st (S' := (419, [], [.int 0], M)) rfl rfl rfl ?_
                                    exact ml_ret rfl (r_z (Or.inl rfl)) (⟨⟨_, rfl, Or.inl rfl⟩, rfl⟩)
                                  · have c_398 : ¬ (¬ (tgf f cp pa s367_0) = 17) := of_decide_eq_false c_398
                                    have t17 : tgf f cp pa s367_0 = 17 := Decidable.not_not.mp c_398
                                    have hE7 := hE s367_0 (by rw [t17]; decide)
                                    have hx17 := hE7.1.2.2.2.2 (Or.inl t17)
                                    have hy17 := hP.y hx17.2.2
                                    refine ml_blk 3 (S' := (404, [(4, .int (tgf f cp pa s367_0)), (3, .int s367_0), (0, .ref m0), (2, .int x2)], [.int s367_0, .ref m0, .ref m0], M)) rfl ?_
                                    refine ml_call (a := [.ref m0, .int s367_0]) (rest := [.ref m0]) rfl (hR.okc rfl rfl rfl) rfl rfl (rm_descOf hR hF hP (by rw [t17]; rfl) (by rw [t17]; decide) (hx17) (by omega)) (fun v157 M158 h159 => ?_)
                                    obtain ⟨rfl, h159⟩ := h159
                                    rw [h159]
                                    show ml _ _ _ (407, [(4, .int (tgf f cp pa s367_0)), (3, .int s367_0), (0, .ref m0), (2, .int x2)], [.int (pyf py (ixf f pa (ixf f pa s367_0 3) 3)), .ref m0], M) _
                                    refine ml_st (S' := (408, [(4, .int (tgf f cp pa s367_0)), (3, .int s367_0), (0, .ref m0), (2, .int x2)], [.int 0, .int (pyf py (ixf f pa (ixf f pa s367_0 3) 3)), .ref m0], M)) rfl rfl rfl ?_
                                    refine ml_call (a := [.ref m0, .int (pyf py (ixf f pa (ixf f pa s367_0 3) 3)), .int 0]) (rest := []) rfl (hR.okc rfl rfl rfl) rfl rfl (rm_wide hR hY (hy17.2.2.1) (hy17.2.2.2) (by decide) (by have q := hE7.2.2.2 t17; have : (0 : Int32).toInt = 0 := rfl; omega) (by omega)) (fun v160 M161 h162 => ?_)
                                    obtain ⟨⟨u163, rfl, z164⟩, h162⟩ := h162
                                    rw [h162]
                                    show ml _ _ _ (411, [(4, .int (tgf f cp pa s367_0)), (3, .int s367_0), (0, .ref m0), (2, .int x2)], [.int u163], M) _
                                    refine ml_if (S1 := (418, [], [], M)) (S2 := (414, [], [], M)) rfl rfl rfl (fun c_411 => ?_) (fun c_411 => ?_)
                                    · have c_411 : u163 = 0 := of_decide_eq_true c_411
                                      refine ml_st (S' := (419, [], [.int 0], M)) rfl rfl rfl ?_
                                      exact ml_ret rfl (r_z (Or.inl rfl)) (⟨⟨_, rfl, Or.inl rfl⟩, rfl⟩)
                                    · have c_411 : ¬ (u163 = 0) := of_decide_eq_false c_411
                                      refine ml_st (S' := (415, [], [.int 1], M)) rfl rfl rfl ?_
                                      refine ml_st (S' := (419, [], [.int 1], M)) rfl rfl rfl ?_
                                      exact ml_ret rfl (r_z (Or.inr rfl)) (⟨⟨_, rfl, Or.inr rfl⟩, rfl⟩)
                          refine ml_if2 (S1 := (360, [(0, .ref m0), (1, .int x1), (2, .int x2)], [], M)) (S2 := (350, [(0, .ref m0), (1, .int x1), (2, .int x2)], [], M)) rfl rfl rfl (fun c_347 => ?_) (fun c_347 => ?_)
                          · have c_347 : ¬ x2 = 18 := of_decide_eq_true c_347
                            have h3 : (3 : Int) ≤ nn := iln 3 hln 19 20 (by have a := i_nlt c_335; have b : x2.toInt ≠ 18 := fun e => c_347 (Int32.toInt_inj.mp e); have : (18 : Int32).toInt = 18 := rfl; have : (19 : Int32).toInt = 19 := rfl; omega) (by have := i_nlt c_341; have : (20 : Int32).toInt = 20 := rfl; omega) mlk_3_19_20
                            refine ml_blk 3 (S' := (363, [(0, .ref m0), (1, .int x1), (2, .int x2)], [.int 1, .int x1, .ref m0], M)) rfl ?_
                            refine ml_st (S' := (364, [(0, .ref m0), (1, .int x1), (2, .int x2)], [.int (x1 + 1), .ref m0], M)) rfl rfl rfl ?_
                            refine ml_call (a := [.ref m0, .int (x1 + 1)]) (rest := []) rfl (hR.okc rfl rfl rfl) rfl rfl (rm_b2 hR hF hC (by omega) (by omega) (by omega)) (fun v165 M166 h167 => ?_)
                            obtain ⟨rfl, h167⟩ := h167
                            rw [h167]
                            show ml _ _ _ (367, [(0, .ref m0), (2, .int x2)], [.int (f2 f (ca + (x1 + 1)))], M) _
                            exact J_367 (f2 f (ca + (x1 + 1)))
                          · have c_347 : ¬ (¬ x2 = 18) := of_decide_eq_false c_347
                            have h2 : (2 : Int) ≤ nn := iln 2 hln 18 18 (by rw [show _ = (18 : Int32) from Decidable.not_not.mp c_347]; decide) (by rw [show _ = (18 : Int32) from Decidable.not_not.mp c_347]; decide) mlk_2_18_18
                            refine ml_blk 3 (S' := (353, [(0, .ref m0), (1, .int x1), (2, .int x2)], [.int 1, .int x1, .ref m0], M)) rfl ?_
                            refine ml_st (S' := (354, [(0, .ref m0), (1, .int x1), (2, .int x2)], [.int (x1 + 1), .ref m0], M)) rfl rfl rfl ?_
                            refine ml_call (a := [.ref m0, .int (x1 + 1)]) (rest := []) rfl (hR.okc rfl rfl rfl) rfl rfl (rm_b1 hR hF hC (by omega) (by omega) (by omega)) (fun v168 M169 h170 => ?_)
                            obtain ⟨rfl, h170⟩ := h170
                            rw [h170]
                            show ml _ _ _ (357, [(0, .ref m0), (1, .int x1), (2, .int x2)], [.int (f1 f (ca + (x1 + 1)))], M) _
                            refine ml_st (S' := (367, [(0, .ref m0), (2, .int x2)], [.int (f1 f (ca + (x1 + 1)))], M)) rfl rfl rfl ?_
                            exact J_367 (f1 f (ca + (x1 + 1)))
                    · have c_300 : ¬ (¬ x2 = 188) := of_decide_eq_false c_300
                      have h2 : (2 : Int) ≤ nn := iln 2 hln 188 188 (by rw [show _ = (188 : Int32) from Decidable.not_not.mp c_300]; decide) (by rw [show _ = (188 : Int32) from Decidable.not_not.mp c_300]; decide) mlk_2_188_188
                      refine ml_blk 3 (S' := (306, [(0, .ref m0), (1, .int x1), (2, .int x2)], [.int 1, .int x1, .ref m0], M)) rfl ?_
                      refine ml_st (S' := (307, [(0, .ref m0), (1, .int x1), (2, .int x2)], [.int (x1 + 1), .ref m0], M)) rfl rfl rfl ?_
                      refine ml_call (a := [.ref m0, .int (x1 + 1)]) (rest := []) rfl (hR.okc rfl rfl rfl) rfl rfl (rm_b1 hR hF hC (by omega) (by omega) (by omega)) (fun v171 M172 h173 => ?_)
                      obtain ⟨rfl, h173⟩ := h173
                      rw [h173]
                      show ml _ _ _ (310, [(0, .ref m0), (1, .int x1), (2, .int x2)], [.int (f1 f (ca + (x1 + 1)))], M) _
                      refine ml_st (S' := (311, [(0, .ref m0), (1, .int x1), (2, .int x2)], [.int 4, .int (f1 f (ca + (x1 + 1)))], M)) rfl rfl rfl ?_
                      refine ml_if2 (S1 := (330, [], [], M)) (S2 := (314, [(0, .ref m0), (1, .int x1), (2, .int x2)], [], M)) rfl rfl rfl (fun c_311 => ?_) (fun c_311 => ?_)
                      · have c_311 : (f1 f (ca + (x1 + 1))) < 4 := of_decide_eq_true c_311
                        refine ml_st (S' := (331, [], [.int 0], M)) rfl rfl rfl ?_
                        exact ml_ret rfl (r_z (Or.inl rfl)) (⟨⟨_, rfl, Or.inl rfl⟩, rfl⟩)
                      · have c_311 : ¬ ((f1 f (ca + (x1 + 1))) < 4) := of_decide_eq_false c_311
                        refine ml_blk 3 (S' := (317, [(0, .ref m0), (1, .int x1), (2, .int x2)], [.int 1, .int x1, .ref m0], M)) rfl ?_
                        refine ml_st (S' := (318, [(0, .ref m0), (1, .int x1), (2, .int x2)], [.int (x1 + 1), .ref m0], M)) rfl rfl rfl ?_
                        refine ml_call (a := [.ref m0, .int (x1 + 1)]) (rest := []) rfl (hR.okc rfl rfl rfl) rfl rfl (rm_b1 hR hF hC (by omega) (by omega) (by omega)) (fun v174 M175 h176 => ?_)
                        obtain ⟨rfl, h176⟩ := h176
                        rw [h176]
                        show ml _ _ _ (321, [(0, .ref m0), (1, .int x1), (2, .int x2)], [.int (f1 f (ca + (x1 + 1)))], M) _
                        refine ml_st (S' := (323, [(0, .ref m0), (1, .int x1), (2, .int x2)], [.int 11, .int (f1 f (ca + (x1 + 1)))], M)) rfl rfl rfl ?_
                        refine ml_if2 (S1 := (330, [], [], M)) (S2 := (326, [(0, .ref m0), (1, .int x1), (2, .int x2)], [], M)) rfl rfl rfl (fun c_323 => ?_) (fun c_323 => ?_)
                        · have c_323 : 11 < (f1 f (ca + (x1 + 1))) := of_decide_eq_true c_323
                          refine ml_st (S' := (331, [], [.int 0], M)) rfl rfl rfl ?_
                          exact ml_ret rfl (r_z (Or.inl rfl)) (⟨⟨_, rfl, Or.inl rfl⟩, rfl⟩)
                        · have c_323 : ¬ (11 < (f1 f (ca + (x1 + 1)))) := of_decide_eq_false c_323
                          refine ml_st (S' := (327, [(0, .ref m0), (1, .int x1), (2, .int x2)], [.int 1], M)) rfl rfl rfl ?_
                          refine ml_st (S' := (331, [], [.int 1], M)) rfl rfl rfl ?_
                          exact ml_ret rfl (r_z (Or.inr rfl)) (⟨⟨_, rfl, Or.inr rfl⟩, rfl⟩)
                  · have c_220 : ¬ (¬ x2 = 196) := of_decide_eq_false c_220
                    have h4 : (4 : Int) ≤ nn := iln 4 hln 196 196 (by rw [show _ = (196 : Int32) from Decidable.not_not.mp c_220]; decide) (by rw [show _ = (196 : Int32) from Decidable.not_not.mp c_220]; decide) mlk_4_196_196
                    refine ml_blk 3 (S' := (226, [(0, .ref m0), (1, .int x1), (2, .int x2)], [.int 1, .int x1, .ref m0], M)) rfl ?_
                    refine ml_st (S' := (227, [(0, .ref m0), (1, .int x1), (2, .int x2)], [.int (x1 + 1), .ref m0], M)) rfl rfl rfl ?_
                    refine ml_call (a := [.ref m0, .int (x1 + 1)]) (rest := []) rfl (hR.okc rfl rfl rfl) rfl rfl (rm_b1 hR hF hC (by omega) (by omega) (by omega)) (fun v177 M178 h179 => ?_)
                    obtain ⟨rfl, h179⟩ := h179
                    rw [h179]
                    show ml _ _ _ (230, [(0, .ref m0), (1, .int x1), (2, .int x2)], [.int (f1 f (ca + (x1 + 1)))], M) _
                    refine ml_st (S' := (231, [(3, .int (f1 f (ca + (x1 + 1)))), (0, .ref m0), (1, .int x1), (2, .int x2)], [], M)) rfl rfl rfl ?_
                    refine ml_blk 2 (S' := (235, [(3, .int (f1 f (ca + (x1 + 1)))), (0, .ref m0), (1, .int x1), (2, .int x2)], [.int 169, .int (f1 f (ca + (x1 + 1)))], M)) rfl ?_
                    have J_247 : ml (mT g) d (mb_228 g).2 (247, [(0, .ref m0), (1, .int x1), (3, .int (f1 f (ca + (x1 + 1))))], [], M) (fun v M' => (∃ x : Int32, v = some (.int x) ∧ (x = 0 ∨ x = 1)) ∧ M' = M) := by
                      refine ml_blk 3 (S' := (250, [(0, .ref m0), (1, .int x1), (3, .int (f1 f (ca + (x1 + 1))))], [.int x1, .ref m0, .ref m0], M)) rfl ?_
                      refine ml_blk 2 (S' := (252, [(0, .ref m0), (1, .int x1), (3, .int (f1 f (ca + (x1 + 1))))], [.int (x1 + 2), .ref m0, .ref m0], M)) rfl ?_
                      refine ml_call (a := [.ref m0, .int (x1 + 2)]) (rest := [.ref m0]) rfl (hR.okc rfl rfl rfl) rfl rfl (rm_b2 hR hF hC (by omega) (by omega) (by omega)) (fun v180 M181 h182 => ?_)
                      obtain ⟨rfl, h182⟩ := h182
                      rw [h182]
                      show ml _ _ _ (255, [(0, .ref m0), (1, .int x1), (3, .int (f1 f (ca + (x1 + 1))))], [.int (f2 f (ca + (x1 + 2))), .ref m0], M) _
                      refine ml_blk 2 (S' := (258, [(0, .ref m0), (1, .int x1), (3, .int (f1 f (ca + (x1 + 1))))], [.int 22, .int (f1 f (ca + (x1 + 1))), .int (f2 f (ca + (x1 + 2))), .ref m0], M)) rfl ?_
                      refine ml_if2 (S1 := (279, [], [.int (f2 f (ca + (x1 + 2))), .ref m0], M)) (S2 := (261, [(0, .ref m0), (1, .int x1), (3, .int (f1 f (ca + (x1 + 1))))], [.int (f2 f (ca + (x1 + 2))), .ref m0], M)) rfl rfl rfl (fun c_258 => ?_) (fun c_258 => ?_)
                      · have c_258 : (f1 f (ca + (x1 + 1))) = 22 := of_decide_eq_true c_258
                        refine ml_st (S' := (280, [], [.int 2, .int (f2 f (ca + (x1 + 2))), .ref m0], M)) rfl rfl rfl ?_
                        refine ml_st (S' := (284, [], [.int 2, .int (f2 f (ca + (x1 + 2))), .ref m0], M)) rfl rfl rfl ?_
                        refine ml_call (a := [.ref m0, .int (f2 f (ca + (x1 + 2))), .int 2]) (rest := []) rfl (hR.okc rfl rfl rfl) rfl rfl (rm_local hR (hk79) (by omega)) (fun v183 M184 h185 => ?_)
                        obtain ⟨⟨u186, rfl, z187⟩, h185⟩ := h185
                        rw [h185]
                        show ml _ _ _ (287, [], [.int u186], M) _
                        refine ml_if (S1 := (294, [], [], M)) (S2 := (290, [], [], M)) rfl rfl rfl (fun c_287 => ?_) (fun c_287 => ?_)
                        · have c_287 : u186 = 0 := of_decide_eq_true c_287
                          refine ml_st (S' := (295, [], [.int 0], M)) rfl rfl rfl ?_
                          exact ml_ret rfl (r_z (Or.inl rfl)) (⟨⟨_, rfl, Or.inl rfl⟩, rfl⟩)
                        · have c_287 : ¬ (u186 = 0) := of_decide_eq_false c_287
                          refine ml_st (S' := (291, [], [.int 1], M)) rfl rfl rfl ?_
                          refine ml_st (S' := (295, [], [.int 1], M)) rfl rfl rfl ?_
                          exact ml_ret rfl (r_z (Or.inr rfl)) (⟨⟨_, rfl, Or.inr rfl⟩, rfl⟩)
                      · have c_258 : ¬ ((f1 f (ca + (x1 + 1))) = 22) := of_decide_eq_false c_258
                        refine ml_blk 2 (S' := (264, [(0, .ref m0), (1, .int x1), (3, .int (f1 f (ca + (x1 + 1))))], [.int 24, .int (f1 f (ca + (x1 + 1))), .int (f2 f (ca + (x1 + 2))), .ref m0], M)) rfl ?_
                        refine ml_if2 (S1 := (279, [], [.int (f2 f (ca + (x1 + 2))), .ref m0], M)) (S2 := (267, [(0, .ref m0), (1, .int x1), (3, .int (f1 f (ca + (x1 + 1))))], [.int (f2 f (ca + (x1 + 2))), .ref m0], M)) rfl rfl rfl (fun c_264 => ?_) (fun c_264 => ?_)
                        · have c_264 : (f1 f (ca + (x1 + 1))) = 24 := of_decide_eq_true c_264
                          refine ml_st (S' := (280, [], [.int 2, .int (f2 f (ca + (x1 + 2))), .ref m0], M)) rfl rfl rfl ?_
                          refine ml_st (S' := (284, [], [.int 2, .int (f2 f (ca + (x1 + 2))), .ref m0], M)) rfl rfl rfl ?_
                          refine ml_call (a := [.ref m0, .int (f2 f (ca + (x1 + 2))), .int 2]) (rest := []) rfl (hR.okc rfl rfl rfl) rfl rfl (rm_local hR (hk79) (by omega)) (fun v188 M189 h190 => ?_)
                          obtain ⟨⟨u191, rfl, z192⟩, h190⟩ := h190
                          rw [h190]
                          show ml _ _ _ (287, [], [.int u191], M) _
                          refine ml_if (S1 := (294, [], [], M)) (S2 := (290, [], [], M)) rfl rfl rfl (fun c_287 => ?_) (fun c_287 => ?_)
                          · have c_287 : u191 = 0 := of_decide_eq_true c_287
                            refine ml_st (S' := (295, [], [.int 0], M)) rfl rfl rfl ?_
                            exact ml_ret rfl (r_z (Or.inl rfl)) (⟨⟨_, rfl, Or.inl rfl⟩, rfl⟩)
                          · have c_287 : ¬ (u191 = 0) := of_decide_eq_false c_287
                            refine ml_st (S' := (291, [], [.int 1], M)) rfl rfl rfl ?_
                            refine ml_st (S' := (295, [], [.int 1], M)) rfl rfl rfl ?_
                            exact ml_ret rfl (r_z (Or.inr rfl)) (⟨⟨_, rfl, Or.inr rfl⟩, rfl⟩)
                        · have c_264 : ¬ ((f1 f (ca + (x1 + 1))) = 24) := of_decide_eq_false c_264
                          refine ml_blk 2 (S' := (270, [(0, .ref m0), (1, .int x1), (3, .int (f1 f (ca + (x1 + 1))))], [.int 55, .int (f1 f (ca + (x1 + 1))), .int (f2 f (ca + (x1 + 2))), .ref m0], M)) rfl ?_
                          refine ml_if2 (S1 := (279, [], [.int (f2 f (ca + (x1 + 2))), .ref m0], M)) (S2 := (273, [(0, .ref m0), (1, .int x1), (3, .int (f1 f (ca + (x1 + 1))))], [.int (f2 f (ca + (x1 + 2))), .ref m0], M)) rfl rfl rfl (fun c_270 => ?_) (fun c_270 => ?_)
                          · have c_270 : (f1 f (ca + (x1 + 1))) = 55 := of_decide_eq_true c_270
                            refine ml_st (S' := (280, [], [.int 2, .int (f2 f (ca + (x1 + 2))), .ref m0], M)) rfl rfl rfl ?_
                            refine ml_st (S' := (284, [], [.int 2, .int (f2 f (ca + (x1 + 2))), .ref m0], M)) rfl rfl rfl ?_
                            refine ml_call (a := [.ref m0, .int (f2 f (ca + (x1 + 2))), .int 2]) (rest := []) rfl (hR.okc rfl rfl rfl) rfl rfl (rm_local hR (hk79) (by omega)) (fun v193 M194 h195 => ?_)
                            obtain ⟨⟨u196, rfl, z197⟩, h195⟩ := h195
                            rw [h195]
                            show ml _ _ _ (287, [], [.int u196], M) _
                            refine ml_if (S1 := (294, [], [], M)) (S2 := (290, [], [], M)) rfl rfl rfl (fun c_287 => ?_) (fun c_287 => ?_)
                            · have c_287 : u196 = 0 := of_decide_eq_true c_287
                              refine ml_st (S' := (295, [], [.int 0], M)) rfl rfl rfl ?_
                              exact ml_ret rfl (r_z (Or.inl rfl)) (⟨⟨_, rfl, Or.inl rfl⟩, rfl⟩)
                            · have c_287 : ¬ (u196 = 0) := of_decide_eq_false c_287
                              refine ml_st (S' := (291, [], [.int 1], M)) rfl rfl rfl ?_
                              refine ml_st (S' := (295, [], [.int 1], M)) rfl rfl rfl ?_
                              exact ml_ret rfl (r_z (Or.inr rfl)) (⟨⟨_, rfl, Or.inr rfl⟩, rfl⟩)
                          · have c_270 : ¬ ((f1 f (ca + (x1 + 1))) = 55) := of_decide_eq_false c_270
                            refine ml_blk 2 (S' := (276, [(0, .ref m0), (1, .int x1), (3, .int (f1 f (ca + (x1 + 1))))], [.int 57, .int (f1 f (ca + (x1 + 1))), .int (f2 f (ca + (x1 + 2))), .ref m0], M)) rfl ?_
                            refine ml_if2 (S1 := (283, [(0, .ref m0), (1, .int x1), (3, .int (f1 f (ca + (x1 + 1))))], [.int (f2 f (ca + (x1 + 2))), .ref m0], M)) (S2 := (279, [], [.int (f2 f (ca + (x1 + 2))), .ref m0], M)) rfl rfl rfl (fun c_276 => ?_) (fun c_276 => ?_)
                            · have c_276 : ¬ (f1 f (ca + (x1 + 1))) = 57 := of_decide_eq_true c_276
                              refine ml_st (S' := (284, [], [.int 1, .int (f2 f (ca + (x1 + 2))), .ref m0], M)) rfl rfl rfl ?_
                              refine ml_call (a := [.ref m0, .int (f2 f (ca + (x1 + 2))), .int 1]) (rest := []) rfl (hR.okc rfl rfl rfl) rfl rfl (rm_local hR (hk79) (by omega)) (fun v198 M199 h200 => ?_)
                              obtain ⟨⟨u201, rfl, z202⟩, h200⟩ := h200
                              rw [h200]
                              show ml _ _ _ (287, [], [.int u201], M) _
                              refine ml_if (S1 := (294, [], [], M)) (S2 := (290, [], [], M)) rfl rfl rfl (fun c_287 => ?_) (fun c_287 => ?_)
                              · have c_287 : u201 = 0 := of_decide_eq_true c_287
                                refine ml_st (S' := (295, [], [.int 0], M)) rfl rfl rfl ?_
                                exact ml_ret rfl (r_z (Or.inl rfl)) (⟨⟨_, rfl, Or.inl rfl⟩, rfl⟩)
                              · have c_287 : ¬ (u201 = 0) := of_decide_eq_false c_287
                                refine ml_st (S' := (291, [], [.int 1], M)) rfl rfl rfl ?_
                                refine ml_st (S' := (295, [], [.int 1], M)) rfl rfl rfl ?_
                                exact ml_ret rfl (r_z (Or.inr rfl)) (⟨⟨_, rfl, Or.inr rfl⟩, rfl⟩)
                            · have c_276 : ¬ (¬ (f1 f (ca + (x1 + 1))) = 57) := of_decide_eq_false c_276
                              refine ml_st (S' := (280, [], [.int 2, .int (f2 f (ca + (x1 + 2))), .ref m0], M)) rfl rfl rfl ?_
                              refine ml_st (S' := (284, [], [.int 2, .int (f2 f (ca + (x1 + 2))), .ref m0], M)) rfl rfl rfl ?_
                              refine ml_call (a := [.ref m0, .int (f2 f (ca + (x1 + 2))), .int 2]) (rest := []) rfl (hR.okc rfl rfl rfl) rfl rfl (rm_local hR (hk79) (by omega)) (fun v203 M204 h205 => ?_)
                              obtain ⟨⟨u206, rfl, z207⟩, h205⟩ := h205
                              rw [h205]
                              show ml _ _ _ (287, [], [.int u206], M) _
                              refine ml_if (S1 := (294, [], [], M)) (S2 := (290, [], [], M)) rfl rfl rfl (fun c_287 => ?_) (fun c_287 => ?_)
                              · have c_287 : u206 = 0 := of_decide_eq_true c_287
                                refine ml_st (S' := (295, [], [.int 0], M)) rfl rfl rfl ?_
                                exact ml_ret rfl (r_z (Or.inl rfl)) (⟨⟨_, rfl, Or.inl rfl⟩, rfl⟩)
                              · have c_287 : ¬ (u206 = 0) := of_decide_eq_false c_287
                                refine ml_st (S' := (291, [], [.int 1], M)) rfl rfl rfl ?_
                                refine ml_st (S' := (295, [], [.int 1], M)) rfl rfl rfl ?_
                                exact ml_ret rfl (r_z (Or.inr rfl)) (⟨⟨_, rfl, Or.inr rfl⟩, rfl⟩)
                    refine ml_if2 (S1 := (247, [(0, .ref m0), (1, .int x1), (3, .int (f1 f (ca + (x1 + 1))))], [], M)) (S2 := (238, [(3, .int (f1 f (ca + (x1 + 1)))), (0, .ref m0), (1, .int x1), (2, .int x2)], [], M)) rfl rfl rfl (fun c_235 => ?_) (fun c_235 => ?_)
                    · have c_235 : ¬ (f1 f (ca + (x1 + 1))) = 169 := of_decide_eq_true c_235
                      exact J_247 
                    · have c_235 : ¬ (¬ (f1 f (ca + (x1 + 1))) = 169) := of_decide_eq_false c_235
                      refine ml_st (S' := (239, [(3, .int (f1 f (ca + (x1 + 1)))), (0, .ref m0), (1, .int x1), (2, .int x2)], [.ref m0], M)) rfl rfl rfl ?_
                      refine rg_int (S' := (242, [(3, .int (f1 f (ca + (x1 + 1)))), (0, .ref m0), (1, .int x1), (2, .int x2)], [.int mj], M)) rfl hR rfl (hP.2.2.1) rfl ?_
                      refine ml_st (S' := (244, [(3, .int (f1 f (ca + (x1 + 1)))), (0, .ref m0), (1, .int x1), (2, .int x2)], [.int 51, .int mj], M)) rfl rfl rfl ?_
                      refine ml_if2 (S1 := (294, [], [], M)) (S2 := (247, [(0, .ref m0), (1, .int x1), (3, .int (f1 f (ca + (x1 + 1))))], [], M)) rfl rfl rfl (fun c_244 => ?_) (fun c_244 => ?_)
                      · have c_244 : 51 ≤ mj := of_decide_eq_true c_244
                        refine ml_st (S' := (295, [], [.int 0], M)) rfl rfl rfl ?_
                        exact ml_ret rfl (r_z (Or.inl rfl)) (⟨⟨_, rfl, Or.inl rfl⟩, rfl⟩)
                      · have c_244 : ¬ (51 ≤ mj) := of_decide_eq_false c_244
                        exact J_247 
                · have c_200 : ¬ (¬ x2 = 132) := of_decide_eq_false c_200
                  have h2 : (2 : Int) ≤ nn := iln 2 hln 132 132 (by rw [show _ = (132 : Int32) from Decidable.not_not.mp c_200]; decide) (by rw [show _ = (132 : Int32) from Decidable.not_not.mp c_200]; decide) mlk_2_132_132
                  refine ml_blk 3 (S' := (206, [(0, .ref m0), (1, .int x1), (2, .int x2)], [.int x1, .ref m0, .ref m0], M)) rfl ?_
                  refine ml_blk 2 (S' := (208, [(0, .ref m0), (1, .int x1), (2, .int x2)], [.int (x1 + 1), .ref m0, .ref m0], M)) rfl ?_
                  refine ml_call (a := [.ref m0, .int (x1 + 1)]) (rest := [.ref m0]) rfl (hR.okc rfl rfl rfl) rfl rfl (rm_b1 hR hF hC (by omega) (by omega) (by omega)) (fun v208 M209 h210 => ?_)
                  obtain ⟨rfl, h210⟩ := h210
                  rw [h210]
                  show ml _ _ _ (211, [(0, .ref m0), (1, .int x1), (2, .int x2)], [.int (f1 f (ca + (x1 + 1))), .ref m0], M) _
                  refine ml_st (S' := (212, [(0, .ref m0), (1, .int x1), (2, .int x2)], [.int 1, .int (f1 f (ca + (x1 + 1))), .ref m0], M)) rfl rfl rfl ?_
                  refine ml_call (a := [.ref m0, .int (f1 f (ca + (x1 + 1))), .int 1]) (rest := []) rfl (hR.okc rfl rfl rfl) rfl rfl (rm_local hR (hk79) (by omega)) (fun v211 M212 h213 => ?_)
                  obtain ⟨⟨u214, rfl, z215⟩, h213⟩ := h213
                  rw [h213]
                  show ml _ _ _ (215, [(0, .ref m0), (1, .int x1), (2, .int x2)], [.int u214], M) _
                  exact ml_ret rfl (r_z (z215)) (⟨⟨_, rfl, z215⟩, rfl⟩)
              refine ml_if2 (S1 := (196, [(0, .ref m0), (1, .int x1), (2, .int x2)], [], M)) (S2 := (145, [(0, .ref m0), (1, .int x1), (2, .int x2)], [], M)) rfl rfl rfl (fun c_142 => ?_) (fun c_142 => ?_)
              · have c_142 : x2 < 59 := of_decide_eq_true c_142
                exact J_196 
              · have c_142 : ¬ (x2 < 59) := of_decide_eq_false c_142
                refine ml_blk 2 (S' := (148, [(0, .ref m0), (1, .int x1), (2, .int x2)], [.int 78, .int x2], M)) rfl ?_
                refine ml_if2 (S1 := (196, [(0, .ref m0), (1, .int x1), (2, .int x2)], [], M)) (S2 := (151, [(0, .ref m0), (2, .int x2)], [], M)) rfl rfl rfl (fun c_148 => ?_) (fun c_148 => ?_)
                · have c_148 : 78 < x2 := of_decide_eq_true c_148
                  exact J_196 
                · have c_148 : ¬ (78 < x2) := of_decide_eq_false c_148
                  exact J_151 
            refine ml_if2 (S1 := (139, [(0, .ref m0), (1, .int x1), (2, .int x2)], [], M)) (S2 := (133, [(0, .ref m0), (1, .int x1), (2, .int x2)], [], M)) rfl rfl rfl (fun c_130 => ?_) (fun c_130 => ?_)
            · have c_130 : x2 < 26 := of_decide_eq_true c_130
              exact J_139 
            · have c_130 : ¬ (x2 < 26) := of_decide_eq_false c_130
              refine ml_blk 2 (S' := (136, [(0, .ref m0), (1, .int x1), (2, .int x2)], [.int 45, .int x2], M)) rfl ?_
              refine ml_if2 (S1 := (151, [(0, .ref m0), (2, .int x2)], [], M)) (S2 := (139, [(0, .ref m0), (1, .int x1), (2, .int x2)], [], M)) rfl rfl rfl (fun c_136 => ?_) (fun c_136 => ?_)
              · have c_136 : x2 ≤ 45 := of_decide_eq_true c_136
                exact J_151 
              · have c_136 : ¬ (x2 ≤ 45) := of_decide_eq_false c_136
                exact J_139 
          refine ml_if2 (S1 := (127, [(0, .ref m0), (1, .int x1), (2, .int x2)], [], M)) (S2 := (76, [(0, .ref m0), (1, .int x1), (2, .int x2)], [], M)) rfl rfl rfl (fun c_73 => ?_) (fun c_73 => ?_)
          · have c_73 : x2 < 54 := of_decide_eq_true c_73
            exact J_127 
          · have c_73 : ¬ (x2 < 54) := of_decide_eq_false c_73
            refine ml_blk 2 (S' := (79, [(0, .ref m0), (1, .int x1), (2, .int x2)], [.int 58, .int x2], M)) rfl ?_
            refine ml_if2 (S1 := (127, [(0, .ref m0), (1, .int x1), (2, .int x2)], [], M)) (S2 := (82, [(0, .ref m0), (1, .int x1), (2, .int x2)], [], M)) rfl rfl rfl (fun c_79 => ?_) (fun c_79 => ?_)
            · have c_79 : 58 < x2 := of_decide_eq_true c_79
              exact J_127 
            · have c_79 : ¬ (58 < x2) := of_decide_eq_false c_79
              exact J_82  (iln 2 hln 54 58 (by have := i_nlt c_73; have : (54 : Int32).toInt = 54 := rfl; omega) (by have := i_nlt c_79; have : (58 : Int32).toInt = 58 := rfl; omega) mlk_2_54_58)
        refine ml_if2 (S1 := (70, [(0, .ref m0), (1, .int x1), (2, .int x2)], [], M)) (S2 := (64, [(0, .ref m0), (1, .int x1), (2, .int x2)], [], M)) rfl rfl rfl (fun c_61 => ?_) (fun c_61 => ?_)
        · have c_61 : x2 < 21 := of_decide_eq_true c_61
          exact J_70 
        · have c_61 : ¬ (x2 < 21) := of_decide_eq_false c_61
          refine ml_blk 2 (S' := (67, [(0, .ref m0), (1, .int x1), (2, .int x2)], [.int 25, .int x2], M)) rfl ?_
          refine ml_if2 (S1 := (82, [(0, .ref m0), (1, .int x1), (2, .int x2)], [], M)) (S2 := (70, [(0, .ref m0), (1, .int x1), (2, .int x2)], [], M)) rfl rfl rfl (fun c_67 => ?_) (fun c_67 => ?_)
          · have c_67 : x2 ≤ 25 := of_decide_eq_true c_67
            exact J_82  (iln 2 hln 21 25 (by have := i_nlt c_61; have : (21 : Int32).toInt = 21 := rfl; omega) (by have := i_le c_67; have : (25 : Int32).toInt = 25 := rfl; omega) mlk_2_21_25)
          · have c_67 : ¬ (x2 ≤ 25) := of_decide_eq_false c_67
            exact J_70 
      · have c_18 : ¬ (¬ x2 = 201) := of_decide_eq_false c_18
        exact J_21 
end
section
/-! the reference: a cut code (my own text) -/
section MIA7
theorem KB.set {k c : Nat} {R R' : rR} {i x : Int32} (h : KB k c R) (h1 : R' k i.toNatClampNeg = some x) (h2 : ∀ b, b ≠ i.toNatClampNeg → R' k b = R k b) : KB k c R' := by
  intro b hb
  by_cases e : b = i.toNatClampNeg
  · exact ⟨x, e ▸ h1⟩
  · rw [h2 b e]
    exact h b hb
def BGN (f : Nat → Int32) (ca cl : Int32) (mn : Nat) (R : rR) : Prop := ∀ k, k < mn → ∃ p, R 80 k = some p ∧ INS f ca cl p
theorem BGN.eq {f : Nat → Int32} {ca cl : Int32} {mn : Nat} {R R' : rR} (h : BGN f ca cl mn R) (e : R' 80 = R 80) : BGN f ca cl mn R' := fun k hk => by rw [e]; exact h k hk
theorem BGN.put {f : Nat → Int32} {ca cl : Int32} {mn : Nat} {R R' : rR} {i p : Int32} (h : BGN f ca cl mn R) (h0 : i.toInt = mn) (h1 : R' 80 i.toNatClampNeg = some p) (h2 : ∀ b, b ≠ i.toNatClampNeg → R' 80 b = R 80 b) (hp : INS f ca cl p) : BGN f ca cl (mn + 1) R' := by
  intro b hb
  by_cases e : b = i.toNatClampNeg
  · exact ⟨p, e ▸ h1, hp⟩
  · rw [h2 b e]
    have : i.toNatClampNeg = i.toInt.toNat := rfl
    exact h b (by omega)
/-- what the length of an instruction says -/
def INP (f : Nat → Int32) (ca cl pc x : Int32) : Prop := 1 ≤ x.toInt ∧ x.toInt ≤ 65540 ∧ ILN (f1 f (ca + pc)) x.toInt ∧ (f1 f (ca + pc) = 196 → f1 f (ca + (pc + 1)) = 132 → 6 ≤ x.toInt) ∧ (f1 f (ca + pc) = 170 ∨ f1 f (ca + pc) = 171 → SWF f ca cl pc)
set_option maxRecDepth 50000 in
theorem ml_170 : mlen 170 = 1 ∧ mlen 171 = 1 ∧ mlen 196 = 4 := by decide
theorem frm_ok {f : Nat → Int32} {ca cl pc x : Int32} (ho : (f1 f (ca + pc) = 170 ∨ f1 f (ca + pc) = 171) ∨ f1 f (ca + pc) = 196) (h : FRM f ca cl pc x) : INP f ca cl pc x := by
  obtain ⟨h1, h2, h3⟩ := h
  have e1 : (170 : Int32).toInt = 170 := rfl
  have e2 : (171 : Int32).toInt = 171 := rfl
  have e3 : (196 : Int32).toInt = 196 := rfl
  refine ⟨?_, h3, ?_, fun e => (h1 e).2, fun e => (h2 e).1⟩
  · rcases ho with e | e
    · exact (h2 e).2
    · have := (h1 e).1
      omega
  · rcases ho with (e | e) | e
    · have q := (h2 (Or.inl e)).2
      rw [e]
      exact ⟨by decide, by decide, by rw [e1]; show ((mlen 170 : Nat) : Int) ≤ _; rw [ml_170.1]; exact q⟩
    · have q := (h2 (Or.inr e)).2
      rw [e]
      exact ⟨by decide, by decide, by rw [e2]; show ((mlen 171 : Nat) : Int) ≤ _; rw [ml_170.2.1]; exact q⟩
    · have q := (h1 e).1
      rw [e]
      exact ⟨by decide, by decide, by rw [e3]; show ((mlen 196 : Nat) : Int) ≤ _; rw [ml_170.2.2]; exact q⟩
set_option maxRecDepth 100000 in
theorem len_tab : ∀ o, o < 202 → o = 170 ∨ o = 171 ∨ o = 196 ∨ ((xe_ch 29 o - 48).toInt = mlen o ∧ 1 ≤ mlen o ∧ mlen o ≤ 5) := by decide +kernel
theorem len_len : (xe_lt 29).2.2.2.length = 202 := by rfl
theorem len_op {f : Nat → Int32} {ca cl pc : Int32} (h : f1 f (ca + pc) ≤ 201) (h1 : ¬ f1 f (ca + pc) = 170) (h2 : ¬ f1 f (ca + pc) = 171) (h3 : ¬ f1 f (ca + pc) = 196) : INP f ca cl pc (xe_ch 29 (Int32.toNatClampNeg (f1 f (ca + pc))) - 48) := by
  have hb := f1_pos (f := f) (x := ca + pc)
  have h' := i_le h
  have e0 : (201 : Int32).toInt = 201 := rfl
  have e1 : (170 : Int32).toInt = 170 := rfl
  have e2 : (171 : Int32).toInt = 171 := rfl
  have e3 : (196 : Int32).toInt = 196 := rfl
  have g1 : (f1 f (ca + pc)).toInt ≠ 170 := fun e => h1 (Int32.toInt_inj.mp (e.trans e1.symm))
  have g2 : (f1 f (ca + pc)).toInt ≠ 171 := fun e => h2 (Int32.toInt_inj.mp (e.trans e2.symm))
  have g3 : (f1 f (ca + pc)).toInt ≠ 196 := fun e => h3 (Int32.toInt_inj.mp (e.trans e3.symm))
  have q := len_tab (f1 f (ca + pc)).toInt.toNat (by omega)
  have q2 := ((q.resolve_left (by omega)).resolve_left (by omega)).resolve_left (by omega)
  obtain ⟨a1, a2, a3⟩ := q2
  have a1' : (xe_ch 29 (Int32.toNatClampNeg (f1 f (ca + pc))) - 48).toInt = mlen (f1 f (ca + pc)).toInt.toNat := a1
  refine ⟨by omega, by omega, ⟨hb.1, by omega, by omega⟩, fun e => absurd e h3, fun e => (e.elim h1 h2).elim⟩
/-- the code of a method, cut up -/
def CUT (f : Nat → Int32) (n : Nat) (I : rI) (R : rR) : Prop := ∃ (ca cl wc mx : Int32) (mn : Nat), CK n ca cl I R ∧ I 75 = some (nI mn) ∧ I 76 = some wc ∧ I 79 = some mx ∧ (mn : Int) ≤ cl.toInt ∧ KB 81 cl.toInt.toNat R ∧ ∀ k, k < mn → ∃ p, R 80 k = some p ∧ INS f ca cl p ∧ (wc < 0 → AIM f ca cl p)
end MIA7
end
section
/-! the reference: a code is cut (laid by wip/p2/c77.py) -/
set_option maxHeartbeats 2000000 in
theorem rm_cuts {g : xe_G}  {m0 : Nat} {q : Nat → Nat} {z : Nat × Nat} {I : rI} {R : rR} {M : mi_H} {x1 co si : Int32} {n : Nat} {f : Nat → Int32} {S cN : Nat} {sa sl ch : Nat → Int32} {cp mj : Int32} {pa py : Nat → Int32} {ca cl mx : Int32}  (hR : RS g m0 q z I R M) (hk74 : I 74 = some co) (hk9 : I 9 = some si) (hF : FK n f I R) (hY : SK S cN sa sl ch I R) (hP : PK n f S cp mj pa py I R) (hE : EK f cp pa py sa sl ch) (hx0 : 0 ≤ x1.toInt) (hx8 : x1.toInt < 8192) (h37 : R 37 x1.toNatClampNeg = some ca) (h38 : R 38 x1.toNatClampNeg = some cl) (h40 : R 40 x1.toNatClampNeg = some mx) (hca : 0 ≤ ca.toInt) (hcl : 0 ≤ cl.toInt) (hcn : ca.toInt + cl.toInt ≤ n) (hCI : co = x1 → CUT f n I R) {d : Nat} (hd : 7 ≤ d) : mt (mT g) d 200 [.ref m0, .int x1] M (fun v M' => ∃ (x : Int32) (I' : rI) (R' : rR), v = some (.int x) ∧ RS g m0 q z I' R' M' ∧ eqI [74, 75, 76, 77, 78, 79] I I' ∧ eqR [80, 81] R R' ∧ (x = 0 ∨ x = 1) ∧ (CUT f n I' R' ∧ I' 74 = some x1 ∧ (x = 0 ∨ ∃ w : Int32, I' 76 = some w ∧ w < 0))) := by
  obtain ⟨d, rfl⟩ : ∃ e, d = e + 1 := ⟨d - 1, by omega⟩
  refine mt_in (b := mb_200 g) rfl rfl ?_
  show ml (mT g) d (mb_200 g).2 (0, [(0, .ref m0), (1, .int x1)], [], M) _
  have hn := hF.1
  refine ml_st (S' := (1, [(0, .ref m0), (1, .int x1)], [.ref m0], M)) rfl rfl rfl ?_
  refine rg_int (S' := (4, [(0, .ref m0), (1, .int x1)], [.int co], M)) rfl hR rfl (hk74) rfl ?_
  refine ml_st (S' := (5, [(0, .ref m0), (1, .int x1)], [.int x1, .int co], M)) rfl rfl rfl ?_
  refine ml_if2 (S1 := (21, [(0, .ref m0), (1, .int x1)], [], M)) (S2 := (8, [(0, .ref m0), (1, .int x1)], [], M)) rfl rfl rfl (fun c_5 => ?_) (fun c_5 => ?_)
  · have c_5 : ¬ co = x1 := of_decide_eq_true c_5
    refine ml_blk 2 (S' := (23, [(0, .ref m0), (1, .int x1)], [.int x1, .ref m0], M)) rfl ?_
    refine rp_int rfl hR rfl (fun M11 I12 hR13 e14 f15 => ?_)
    show ml _ _ _ (26, [(0, .ref m0), (1, .int x1)], [], M11) _
    refine ml_blk 2 (S' := (28, [(0, .ref m0), (1, .int x1)], [.ref m0, .ref m0], M11)) rfl ?_
    refine rg_ref (S' := (31, [(0, .ref m0), (1, .int x1)], [.ref (q 37), .ref m0], M11)) rfl hR13 rfl rfl ?_
    refine ml_st (S' := (32, [(0, .ref m0), (1, .int x1)], [.int x1, .ref (q 37), .ref m0], M11)) rfl rfl rfl ?_
    refine ra_ld (k := 37) (S' := (33, [(0, .ref m0), (1, .int x1)], [.int ca, .ref m0], M11)) rfl hR13 rfl (vin_lt hx0 (by omega)) (h37) rfl ?_
    refine rp_int rfl hR13 rfl (fun M16 I17 hR18 e19 f20 => ?_)
    show ml _ _ _ (36, [(0, .ref m0), (1, .int x1)], [], M16) _
    refine ml_blk 2 (S' := (38, [(0, .ref m0), (1, .int x1)], [.ref m0, .ref m0], M16)) rfl ?_
    refine rg_ref (S' := (41, [(0, .ref m0), (1, .int x1)], [.ref (q 38), .ref m0], M16)) rfl hR18 rfl rfl ?_
    refine ml_st (S' := (42, [(0, .ref m0), (1, .int x1)], [.int x1, .ref (q 38), .ref m0], M16)) rfl rfl rfl ?_
    refine ra_ld (k := 38) (S' := (43, [(0, .ref m0), (1, .int x1)], [.int cl, .ref m0], M16)) rfl hR18 rfl (vin_lt hx0 (by omega)) (h38) rfl ?_
    refine rp_int rfl hR18 rfl (fun M21 I22 hR23 e24 f25 => ?_)
    show ml _ _ _ (46, [(0, .ref m0), (1, .int x1)], [], M21) _
    refine ml_blk 2 (S' := (48, [(0, .ref m0), (1, .int x1)], [.ref m0, .ref m0], M21)) rfl ?_
    refine rg_ref (S' := (51, [(0, .ref m0), (1, .int x1)], [.ref (q 40), .ref m0], M21)) rfl hR23 rfl rfl ?_
    refine ml_st (S' := (52, [(0, .ref m0), (1, .int x1)], [.int x1, .ref (q 40), .ref m0], M21)) rfl rfl rfl ?_
    refine ra_ld (k := 40) (S' := (53, [(0, .ref m0), (1, .int x1)], [.int mx, .ref m0], M21)) rfl hR23 rfl (vin_lt hx0 (by omega)) (h40) rfl ?_
    refine rp_int rfl hR23 rfl (fun M26 I27 hR28 e29 f30 => ?_)
    show ml _ _ _ (56, [(0, .ref m0), (1, .int x1)], [], M26) _
    refine ml_blk 2 (S' := (58, [(0, .ref m0), (1, .int x1)], [.int 0, .ref m0], M26)) rfl ?_
    refine rp_int rfl hR28 rfl (fun M31 I32 hR33 e34 f35 => ?_)
    show ml _ _ _ (61, [(0, .ref m0), (1, .int x1)], [], M31) _
    refine ml_blk 2 (S' := (63, [(0, .ref m0), (1, .int x1)], [.int (-1), .ref m0], M31)) rfl ?_
    refine rp_int rfl hR33 rfl (fun M36 I37 hR38 e39 f40 => ?_)
    show ml _ _ _ (66, [(0, .ref m0), (1, .int x1)], [], M36) _
    have hCK : CK n ca cl I37 R := ⟨(f40 77 (by decide)).trans ((f35 77 (by decide)).trans ((f30 77 (by decide)).trans ((f25 77 (by decide)).trans (e19)))), (f40 78 (by decide)).trans ((f35 78 (by decide)).trans ((f30 78 (by decide)).trans (e24))), hca, hcl, hcn⟩
    refine ml_st (S' := (67, [(0, .ref m0), (1, .int x1)], [.int 0], M36)) rfl rfl rfl ?_
    refine ml_st (S' := (68, [(0, .ref m0), (2, .int 0)], [], M36)) rfl rfl rfl ?_
    have L_68 : ∀ (n_68 : Nat) (i68_2 : Int32) (M_68 : mi_H) (I_68 : rI) (R_68 : rR), (2147483648 - i68_2.toInt).toNat ≤ n_68 → RS g m0 q z I_68 R_68 M_68 → eqI [] I37 I_68 → eqR [81] R R_68 → (0 ≤ i68_2.toInt ∧ i68_2.toInt ≤ cl.toInt ∧ KB 81 i68_2.toInt.toNat R_68) → ml (mT g) d (mb_200 g).2 (68, [(0, .ref m0), (2, .int i68_2)], [], M_68) (fun v M' => ∃ (x : Int32) (I' : rI) (R' : rR), v = some (.int x) ∧ RS g m0 q z I' R' M' ∧ eqI [74, 75, 76, 77, 78, 79] I I' ∧ eqR [80, 81] R R' ∧ (x = 0 ∨ x = 1) ∧ (CUT f n I' R' ∧ I' 74 = some x1 ∧ (x = 0 ∨ ∃ w : Int32, I' 76 = some w ∧ w < 0))) := by
      intro n_68
      induction n_68 with
      | zero => intro i68_2 M_68 I_68 R_68 hn; exact (loop_zero hn).elim
      | succ n_68 ih_68 =>
        intro i68_2 M_68 I_68 R_68 hn_68 hR_68 hI_68 hV_68 hi_68
        obtain ⟨hk0, hk1, hk81⟩ := hi_68
        refine ml_blk 2 (S' := (70, [(0, .ref m0), (2, .int i68_2)], [.ref m0, .int i68_2], M_68)) rfl ?_
        refine rg_int (S' := (73, [(0, .ref m0), (2, .int i68_2)], [.int cl, .int i68_2], M_68)) rfl hR_68 rfl ((hI_68 78 (by decide)).trans ((f40 78 (by decide)).trans ((f35 78 (by decide)).trans ((f30 78 (by decide)).trans (e24))))) rfl ?_
        refine ml_if2 (S1 := (89, [(0, .ref m0), (2, .int i68_2)], [], M_68)) (S2 := (76, [(0, .ref m0), (2, .int i68_2)], [], M_68)) rfl rfl rfl (fun c_73 => ?_) (fun c_73 => ?_)
        · have c_73 : cl ≤ i68_2 := of_decide_eq_true c_73
          have hkb0 : KB 81 cl.toInt.toNat R_68 := by have q := i_le c_73; rw [show cl.toInt.toNat = i68_2.toInt.toNat by omega]; exact hk81
          refine ml_st (S' := (90, [(0, .ref m0), (2, .int i68_2)], [.int 0], M_68)) rfl rfl rfl ?_
          refine ml_st (S' := (91, [(0, .ref m0), (2, .int 0)], [], M_68)) rfl rfl rfl ?_
          have L_91 : ∀ (n_91 : Nat) (i91_2 : Int32) (mn : Nat) (w9 : Int32) (M_91 : mi_H) (I_91 : rI) (R_91 : rR), ((cl.toInt - i91_2.toInt).toNat + (if w9 < 0 then 2 else 1)) ≤ n_91 → RS g m0 q z I_91 R_91 M_91 → eqI [75, 76] I_68 I_91 → eqR [80, 81] R_68 R_91 → (0 ≤ i91_2.toInt ∧ i91_2.toInt ≤ cl.toInt ∧ (mn : Int) ≤ i91_2.toInt ∧ I_91 75 = some (nI mn) ∧ I_91 76 = some w9 ∧ KB 81 cl.toInt.toNat R_91 ∧ BGN f ca cl mn R_91) → ml (mT g) d (mb_200 g).2 (91, [(0, .ref m0), (2, .int i91_2)], [], M_91) (fun v M' => ∃ (x : Int32) (I' : rI) (R' : rR), v = some (.int x) ∧ RS g m0 q z I' R' M' ∧ eqI [74, 75, 76, 77, 78, 79] I I' ∧ eqR [80, 81] R R' ∧ (x = 0 ∨ x = 1) ∧ (CUT f n I' R' ∧ I' 74 = some x1 ∧ (x = 0 ∨ ∃ w : Int32, I' 76 = some w ∧ w < 0))) := by
            intro n_91
            induction n_91 with
            | zero => intro i91_2 mn w9 M_91 I_91 R_91 hn hR_91 hI_91 hV_91 hi; exact absurd hn (by split <;> omega)
            | succ n_91 ih_91 =>
              intro i91_2 mn w9 M_91 I_91 R_91 hn_91 hR_91 hI_91 hV_91 hi_91
              obtain ⟨hp0, hp1, hmn, h75, h76, hkb, hbg⟩ := hi_91
              refine ml_blk 2 (S' := (93, [(0, .ref m0), (2, .int i91_2)], [.ref m0, .int i91_2], M_91)) rfl ?_
              refine rg_int (S' := (96, [(0, .ref m0), (2, .int i91_2)], [.int cl, .int i91_2], M_91)) rfl hR_91 rfl ((hI_91 78 (by decide)).trans ((hI_68 78 (by decide)).trans ((f40 78 (by decide)).trans ((f35 78 (by decide)).trans ((f30 78 (by decide)).trans (e24)))))) rfl ?_
              refine ml_if2 (S1 := (233, [(0, .ref m0)], [], M_91)) (S2 := (99, [(0, .ref m0), (2, .int i91_2)], [], M_91)) rfl rfl rfl (fun c_96 => ?_) (fun c_96 => ?_)
              · have c_96 : cl ≤ i91_2 := of_decide_eq_true c_96
                refine ml_st (S' := (234, [(0, .ref m0)], [.int 0], M_91)) rfl rfl rfl ?_
                refine ml_st (S' := (235, [(0, .ref m0), (3, .int 0)], [], M_91)) rfl rfl rfl ?_
                have L_235 : ∀ (n_235 : Nat) (i235_3 : Int32) (w8 : Int32) (M_235 : mi_H) (I_235 : rI) (R_235 : rR), (2147483648 - i235_3.toInt).toNat ≤ n_235 → RS g m0 q z I_235 R_235 M_235 → eqI [76] I_91 I_235 → eqR [] R_91 R_235 → (0 ≤ i235_3.toInt ∧ i235_3.toInt ≤ mn ∧ I_235 76 = some w8 ∧ (w8 < 0 → ∀ j, j < i235_3.toInt.toNat → ∀ p, R_91 80 j = some p → AIM f ca cl p)) → ml (mT g) d (mb_200 g).2 (235, [(0, .ref m0), (3, .int i235_3)], [], M_235) (fun v M' => ∃ (x : Int32) (I' : rI) (R' : rR), v = some (.int x) ∧ RS g m0 q z I' R' M' ∧ eqI [74, 75, 76, 77, 78, 79] I I' ∧ eqR [80, 81] R R' ∧ (x = 0 ∨ x = 1) ∧ (CUT f n I' R' ∧ I' 74 = some x1 ∧ (x = 0 ∨ ∃ w : Int32, I' 76 = some w ∧ w < 0))) := by
                  intro n_235
                  induction n_235 with
                  | zero => intro i235_3 w8 M_235 I_235 R_235 hn; exact (loop_zero hn).elim
                  | succ n_235 ih_235 =>
                    intro i235_3 w8 M_235 I_235 R_235 hn_235 hR_235 hI_235 hV_235 hi_235
                    obtain ⟨hk0, hkm, h76b, hal⟩ := hi_235
                    refine ml_blk 2 (S' := (237, [(0, .ref m0), (3, .int i235_3)], [.ref m0, .int i235_3], M_235)) rfl ?_
                    refine rg_int (S' := (240, [(0, .ref m0), (3, .int i235_3)], [.int (nI mn), .int i235_3], M_235)) rfl hR_235 rfl ((hI_235 75 (by decide)).trans (h75)) rfl ?_
                    refine ml_if2 (S1 := (279, [(0, .ref m0)], [], M_235)) (S2 := (243, [(0, .ref m0), (3, .int i235_3)], [], M_235)) rfl rfl rfl (fun c_240 => ?_) (fun c_240 => ?_)
                    · have c_240 : (nI mn) ≤ i235_3 := of_decide_eq_true c_240
                      refine ml_st (S' := (280, [(0, .ref m0)], [.ref m0], M_235)) rfl rfl rfl ?_
                      refine rg_int (S' := (283, [(0, .ref m0)], [.int w8], M_235)) rfl hR_235 rfl (h76b) rfl ?_
                      refine ml_if (S1 := (290, [(0, .ref m0)], [], M_235)) (S2 := (286, [(0, .ref m0)], [], M_235)) rfl rfl rfl (fun c_283 => ?_) (fun c_283 => ?_)
                      · have c_283 : 0 ≤ w8 := of_decide_eq_true c_283
                        refine ml_st (S' := (291, [], [.int 0], M_235)) rfl rfl rfl ?_
                        have hC41 : CK n ca cl I_235 R_235 := (((hCK.mono (cIx hI_68 (by decide)) (cRx hV_68 (by decide))).mono (cIx hI_91 (by decide)) (cRx hV_91 (by decide))).mono (cIx hI_235 (by decide)) (cRx hV_235 (by decide)))
                        exact ml_ret rfl (r_z (Or.inl rfl)) (⟨_, _, _, rfl, hR_235, (((((((((eqI.rf.put f15 (by decide)).put f20 (by decide)).put f25 (by decide)).put f30 (by decide)).put f35 (by decide)).put f40 (by decide)).tr hI_68 (by decide)).tr hI_91 (by decide)).tr hI_235 (by decide)), (((eqR.rf.tr hV_68 (by decide)).tr hV_91 (by decide)).tr hV_235 (by decide)), Or.inl rfl, ⟨⟨ca, cl, w8, mx, mn, hC41, (hI_235 75 (by decide)).trans (h75), h76b, (hI_235 79 (by decide)).trans ((hI_91 79 (by decide)).trans ((hI_68 79 (by decide)).trans ((f40 79 (by decide)).trans ((f35 79 (by decide)).trans (e29))))), by omega, hkb.eq (hV_235 81 (by decide)), fun k hk => by obtain ⟨p, hp, hi⟩ := hbg k hk; exact ⟨p, (congrFun (hV_235 80 (by decide)) _).trans hp, hi, fun hw => by first | exact hal hw k (by have q := i_le c_240; rw [nI_val (by omega)] at q; omega) p hp | exact absurd hw (Int32.not_lt.mpr c_247)⟩⟩, (hI_235 74 (by decide)).trans ((hI_91 74 (by decide)).trans ((hI_68 74 (by decide)).trans ((f40 74 (by decide)).trans ((f35 74 (by decide)).trans ((f30 74 (by decide)).trans ((f25 74 (by decide)).trans ((f20 74 (by decide)).trans (e14)))))))), Or.inl rfl⟩⟩)
                      · have c_283 : ¬ (0 ≤ w8) := of_decide_eq_false c_283
                        refine ml_st (S' := (287, [(0, .ref m0)], [.int 1], M_235)) rfl rfl rfl ?_
                        refine ml_st (S' := (291, [], [.int 1], M_235)) rfl rfl rfl ?_
                        have hC42 : CK n ca cl I_235 R_235 := (((hCK.mono (cIx hI_68 (by decide)) (cRx hV_68 (by decide))).mono (cIx hI_91 (by decide)) (cRx hV_91 (by decide))).mono (cIx hI_235 (by decide)) (cRx hV_235 (by decide)))
                        exact ml_ret rfl (r_z (Or.inr rfl)) (⟨_, _, _, rfl, hR_235, (((((((((eqI.rf.put f15 (by decide)).put f20 (by decide)).put f25 (by decide)).put f30 (by decide)).put f35 (by decide)).put f40 (by decide)).tr hI_68 (by decide)).tr hI_91 (by decide)).tr hI_235 (by decide)), (((eqR.rf.tr hV_68 (by decide)).tr hV_91 (by decide)).tr hV_235 (by decide)), Or.inr rfl, ⟨⟨ca, cl, w8, mx, mn, hC42, (hI_235 75 (by decide)).trans (h75), h76b, (hI_235 79 (by decide)).trans ((hI_91 79 (by decide)).trans ((hI_68 79 (by decide)).trans ((f40 79 (by decide)).trans ((f35 79 (by decide)).trans (e29))))), by omega, hkb.eq (hV_235 81 (by decide)), fun k hk => by obtain ⟨p, hp, hi⟩ := hbg k hk; exact ⟨p, (congrFun (hV_235 80 (by decide)) _).trans hp, hi, fun hw => by first | exact hal hw k (by have q := i_le c_240; rw [nI_val (by omega)] at q; omega) p hp | exact absurd hw (Int32.not_lt.mpr c_247)⟩⟩, (hI_235 74 (by decide)).trans ((hI_91 74 (by decide)).trans ((hI_68 74 (by decide)).trans ((f40 74 (by decide)).trans ((f35 74 (by decide)).trans ((f30 74 (by decide)).trans ((f25 74 (by decide)).trans ((f20 74 (by decide)).trans (e14)))))))), Or.inr ⟨w8, h76b, Int32.not_le.mp c_283⟩⟩⟩)
                    · have c_240 : ¬ ((nI mn) ≤ i235_3) := of_decide_eq_false c_240
                      refine ml_st (S' := (244, [(0, .ref m0), (3, .int i235_3)], [.ref m0], M_235)) rfl rfl rfl ?_
                      refine rg_int (S' := (247, [(0, .ref m0), (3, .int i235_3)], [.int w8], M_235)) rfl hR_235 rfl (h76b) rfl ?_
                      refine ml_if (S1 := (279, [(0, .ref m0)], [], M_235)) (S2 := (250, [(0, .ref m0), (3, .int i235_3)], [], M_235)) rfl rfl rfl (fun c_247 => ?_) (fun c_247 => ?_)
                      · have c_247 : 0 ≤ w8 := of_decide_eq_true c_247
                        refine ml_st (S' := (280, [(0, .ref m0)], [.ref m0], M_235)) rfl rfl rfl ?_
                        refine rg_int (S' := (283, [(0, .ref m0)], [.int w8], M_235)) rfl hR_235 rfl (h76b) rfl ?_
                        refine ml_if (S1 := (290, [(0, .ref m0)], [], M_235)) (S2 := (286, [(0, .ref m0)], [], M_235)) rfl rfl rfl (fun c_283 => ?_) (fun c_283 => ?_)
                        · have c_283 : 0 ≤ w8 := of_decide_eq_true c_283
                          refine ml_st (S' := (291, [], [.int 0], M_235)) rfl rfl rfl ?_
                          have hC43 : CK n ca cl I_235 R_235 := (((hCK.mono (cIx hI_68 (by decide)) (cRx hV_68 (by decide))).mono (cIx hI_91 (by decide)) (cRx hV_91 (by decide))).mono (cIx hI_235 (by decide)) (cRx hV_235 (by decide)))
                          exact ml_ret rfl (r_z (Or.inl rfl)) (⟨_, _, _, rfl, hR_235, (((((((((eqI.rf.put f15 (by decide)).put f20 (by decide)).put f25 (by decide)).put f30 (by decide)).put f35 (by decide)).put f40 (by decide)).tr hI_68 (by decide)).tr hI_91 (by decide)).tr hI_235 (by decide)), (((eqR.rf.tr hV_68 (by decide)).tr hV_91 (by decide)).tr hV_235 (by decide)), Or.inl rfl, ⟨⟨ca, cl, w8, mx, mn, hC43, (hI_235 75 (by decide)).trans (h75), h76b, (hI_235 79 (by decide)).trans ((hI_91 79 (by decide)).trans ((hI_68 79 (by decide)).trans ((f40 79 (by decide)).trans ((f35 79 (by decide)).trans (e29))))), by omega, hkb.eq (hV_235 81 (by decide)), fun k hk => by obtain ⟨p, hp, hi⟩ := hbg k hk; exact ⟨p, (congrFun (hV_235 80 (by decide)) _).trans hp, hi, fun hw => by first | exact hal hw k (by have q := i_le c_240; rw [nI_val (by omega)] at q; omega) p hp | exact absurd hw (Int32.not_lt.mpr c_247)⟩⟩, (hI_235 74 (by decide)).trans ((hI_91 74 (by decide)).trans ((hI_68 74 (by decide)).trans ((f40 74 (by decide)).trans ((f35 74 (by decide)).trans ((f30 74 (by decide)).trans ((f25 74 (by decide)).trans ((f20 74 (by decide)).trans (e14)))))))), Or.inl rfl⟩⟩)
                        · have c_283 : ¬ (0 ≤ w8) := of_decide_eq_false c_283
                          refine ml_st (S' := (287, [(0, .ref m0)], [.int 1], M_235)) rfl rfl rfl ?_
                          refine ml_st (S' := (291, [], [.int 1], M_235)) rfl rfl rfl ?_
                          have hC44 : CK n ca cl I_235 R_235 := (((hCK.mono (cIx hI_68 (by decide)) (cRx hV_68 (by decide))).mono (cIx hI_91 (by decide)) (cRx hV_91 (by decide))).mono (cIx hI_235 (by decide)) (cRx hV_235 (by decide)))
                          exact ml_ret rfl (r_z (Or.inr rfl)) (⟨_, _, _, rfl, hR_235, (((((((((eqI.rf.put f15 (by decide)).put f20 (by decide)).put f25 (by decide)).put f30 (by decide)).put f35 (by decide)).put f40 (by decide)).tr hI_68 (by decide)).tr hI_91 (by decide)).tr hI_235 (by decide)), (((eqR.rf.tr hV_68 (by decide)).tr hV_91 (by decide)).tr hV_235 (by decide)), Or.inr rfl, ⟨⟨ca, cl, w8, mx, mn, hC44, (hI_235 75 (by decide)).trans (h75), h76b, (hI_235 79 (by decide)).trans ((hI_91 79 (by decide)).trans ((hI_68 79 (by decide)).trans ((f40 79 (by decide)).trans ((f35 79 (by decide)).trans (e29))))), by omega, hkb.eq (hV_235 81 (by decide)), fun k hk => by obtain ⟨p, hp, hi⟩ := hbg k hk; exact ⟨p, (congrFun (hV_235 80 (by decide)) _).trans hp, hi, fun hw => by first | exact hal hw k (by have q := i_le c_240; rw [nI_val (by omega)] at q; omega) p hp | exact absurd hw (Int32.not_lt.mpr c_247)⟩⟩, (hI_235 74 (by decide)).trans ((hI_91 74 (by decide)).trans ((hI_68 74 (by decide)).trans ((f40 74 (by decide)).trans ((f35 74 (by decide)).trans ((f30 74 (by decide)).trans ((f25 74 (by decide)).trans ((f20 74 (by decide)).trans (e14)))))))), Or.inr ⟨w8, h76b, Int32.not_le.mp c_283⟩⟩⟩)
                      · have c_247 : ¬ (0 ≤ w8) := of_decide_eq_false c_247
                        have hkl : i235_3.toInt < mn := by have q := i_nle c_240; rw [nI_val (by omega)] at q; exact q
                        obtain ⟨p9, hp9, hi9⟩ := hbg i235_3.toNatClampNeg (by show i235_3.toInt.toNat < mn; omega)
                        have hkb9 : KB 81 cl.toInt.toNat R_235 := hkb.eq (hV_235 81 (by decide))
                        refine ml_blk 2 (S' := (252, [(0, .ref m0), (3, .int i235_3)], [.ref m0, .ref m0], M_235)) rfl ?_
                        refine rg_ref (S' := (255, [(0, .ref m0), (3, .int i235_3)], [.ref (q 80), .ref m0], M_235)) rfl hR_235 rfl rfl ?_
                        refine ml_st (S' := (256, [(0, .ref m0), (3, .int i235_3)], [.int i235_3, .ref (q 80), .ref m0], M_235)) rfl rfl rfl ?_
                        refine ra_ld (k := 80) (S' := (257, [(0, .ref m0), (3, .int i235_3)], [.int p9, .ref m0], M_235)) rfl hR_235 rfl (vin_lt hk0 (by omega)) ((congrFun (hV_235 80 (by decide)) _).trans hp9) rfl ?_
                        have hF45 : FK n f I_235 R_235 := (((((((((hF.mono (pIx f15 (by decide)) (fun _ _ => rfl)).mono (pIx f20 (by decide)) (fun _ _ => rfl)).mono (pIx f25 (by decide)) (fun _ _ => rfl)).mono (pIx f30 (by decide)) (fun _ _ => rfl)).mono (pIx f35 (by decide)) (fun _ _ => rfl)).mono (pIx f40 (by decide)) (fun _ _ => rfl)).mono (cIx hI_68 (by decide)) (cRx hV_68 (by decide))).mono (cIx hI_91 (by decide)) (cRx hV_91 (by decide))).mono (cIx hI_235 (by decide)) (cRx hV_235 (by decide)))
                        have hC46 : CK n ca cl I_235 R_235 := (((hCK.mono (cIx hI_68 (by decide)) (cRx hV_68 (by decide))).mono (cIx hI_91 (by decide)) (cRx hV_91 (by decide))).mono (cIx hI_235 (by decide)) (cRx hV_235 (by decide)))
                        refine ml_call (a := [.ref m0, .int p9]) (rest := []) rfl (hR_235.okc rfl rfl rfl) rfl rfl (rm_aims hR_235 hF45 hC46 (hi9) (hkb9) (by omega)) (fun v47 M48 h49 => ?_)
                        obtain ⟨⟨u50, rfl, z51, w52⟩, h49⟩ := h49
                        rw [h49]
                        show ml _ _ _ (260, [(0, .ref m0), (3, .int i235_3)], [.int u50], M_235) _
                        have haimx := w52
                        refine ml_if (S1 := (273, [(0, .ref m0), (3, .int i235_3)], [], M_235)) (S2 := (263, [(0, .ref m0), (3, .int i235_3)], [], M_235)) rfl rfl rfl (fun c_260 => ?_) (fun c_260 => ?_)
                        · have c_260 : ¬ u50 = 0 := of_decide_eq_true c_260
                          have haim := haimx.resolve_left c_260
                          refine ml_st (S' := (276, [(3, .int (i235_3 + 1)), (0, .ref m0)], [], M_235)) rfl rfl rfl ?_
                          refine ml_st (S' := (235, [(0, .ref m0), (3, .int (i235_3 + 1))], [], M_235)) rfl rfl rfl ?_
                          exact ih_235 (i235_3 + 1) w8 _ _ _ (loop_inc (Int32.not_le.mp c_240) hn_235) hR_235 (eqI.rf.tr hI_235 (by decide)) (eqR.rf.tr hV_235 (by decide)) (⟨by rw [inc_lt (Int32.not_le.mp c_240)]; omega, by rw [inc_lt (Int32.not_le.mp c_240)]; omega, h76b, fun hw j hj p hp => by rw [inc_lt (Int32.not_le.mp c_240)] at hj; have e9 : i235_3.toNatClampNeg = i235_3.toInt.toNat := rfl; by_cases e : j = i235_3.toNatClampNeg; (have e2 : some p9 = some p := hp9.symm.trans (e ▸ hp); cases e2; exact haim); exact hal hw j (by omega) p hp⟩)
                        · have c_260 : ¬ (¬ u50 = 0) := of_decide_eq_false c_260
                          refine ml_blk 2 (S' := (265, [(0, .ref m0), (3, .int i235_3)], [.ref m0, .ref m0], M_235)) rfl ?_
                          refine rg_ref (S' := (268, [(0, .ref m0), (3, .int i235_3)], [.ref (q 80), .ref m0], M_235)) rfl hR_235 rfl rfl ?_
                          refine ml_st (S' := (269, [(0, .ref m0), (3, .int i235_3)], [.int i235_3, .ref (q 80), .ref m0], M_235)) rfl rfl rfl ?_
                          refine ra_ld (k := 80) (S' := (270, [(0, .ref m0), (3, .int i235_3)], [.int p9, .ref m0], M_235)) rfl hR_235 rfl (vin_lt hk0 (by omega)) ((congrFun (hV_235 80 (by decide)) _).trans hp9) rfl ?_
                          refine rp_int rfl hR_235 rfl (fun M53 I54 hR55 e56 f57 => ?_)
                          show ml _ _ _ (273, [(0, .ref m0), (3, .int i235_3)], [], M53) _
                          refine ml_st (S' := (276, [(3, .int (i235_3 + 1)), (0, .ref m0)], [], M53)) rfl rfl rfl ?_
                          refine ml_st (S' := (235, [(0, .ref m0), (3, .int (i235_3 + 1))], [], M53)) rfl rfl rfl ?_
                          exact ih_235 (i235_3 + 1) p9 _ _ _ (loop_inc (Int32.not_le.mp c_240) hn_235) hR55 ((eqI.rf.tr hI_235 (by decide)).put f57 (by decide)) (eqR.rf.tr hV_235 (by decide)) (⟨by rw [inc_lt (Int32.not_le.mp c_240)]; omega, by rw [inc_lt (Int32.not_le.mp c_240)]; omega, e56, fun hw => absurd hw (nlt0 hi9.1)⟩)
                exact L_235 _ 0 w9 _ _ _ (Nat.le_refl _) hR_91 eqI.rf eqR.rf (⟨by decide, by have : (0 : Int32).toInt = 0 := rfl; omega, h76, fun _ j hj => absurd hj (Nat.not_lt_zero j)⟩)
              · have c_96 : ¬ (cl ≤ i91_2) := of_decide_eq_false c_96
                refine ml_st (S' := (100, [(0, .ref m0), (2, .int i91_2)], [.ref m0], M_91)) rfl rfl rfl ?_
                refine rg_int (S' := (103, [(0, .ref m0), (2, .int i91_2)], [.int w9], M_91)) rfl hR_91 rfl (h76) rfl ?_
                refine ml_if (S1 := (233, [(0, .ref m0)], [], M_91)) (S2 := (106, [(0, .ref m0), (2, .int i91_2)], [], M_91)) rfl rfl rfl (fun c_103 => ?_) (fun c_103 => ?_)
                · have c_103 : 0 ≤ w9 := of_decide_eq_true c_103
                  refine ml_st (S' := (234, [(0, .ref m0)], [.int 0], M_91)) rfl rfl rfl ?_
                  refine ml_st (S' := (235, [(0, .ref m0), (3, .int 0)], [], M_91)) rfl rfl rfl ?_
                  have L_235 : ∀ (n_235 : Nat) (i235_3 : Int32) (w8 : Int32) (M_235 : mi_H) (I_235 : rI) (R_235 : rR), (2147483648 - i235_3.toInt).toNat ≤ n_235 → RS g m0 q z I_235 R_235 M_235 → eqI [76] I_91 I_235 → eqR [] R_91 R_235 → (0 ≤ i235_3.toInt ∧ i235_3.toInt ≤ mn ∧ I_235 76 = some w8 ∧ (w8 < 0 → ∀ j, j < i235_3.toInt.toNat → ∀ p, R_91 80 j = some p → AIM f ca cl p)) → ml (mT g) d (mb_200 g).2 (235, [(0, .ref m0), (3, .int i235_3)], [], M_235) (fun v M' => ∃ (x : Int32) (I' : rI) (R' : rR), v = some (.int x) ∧ RS g m0 q z I' R' M' ∧ eqI [74, 75, 76, 77, 78, 79] I I' ∧ eqR [80, 81] R R' ∧ (x = 0 ∨ x = 1) ∧ (CUT f n I' R' ∧ I' 74 = some x1 ∧ (x = 0 ∨ ∃ w : Int32, I' 76 = some w ∧ w < 0))) := by
                    intro n_235
                    induction n_235 with
                    | zero => intro i235_3 w8 M_235 I_235 R_235 hn; exact (loop_zero hn).elim
                    | succ n_235 ih_235 =>
                      intro i235_3 w8 M_235 I_235 R_235 hn_235 hR_235 hI_235 hV_235 hi_235
                      obtain ⟨hk0, hkm, h76b, hal⟩ := hi_235
                      refine ml_blk 2 (S' := (237, [(0, .ref m0), (3, .int i235_3)], [.ref m0, .int i235_3], M_235)) rfl ?_
                      refine rg_int (S' := (240, [(0, .ref m0), (3, .int i235_3)], [.int (nI mn), .int i235_3], M_235)) rfl hR_235 rfl ((hI_235 75 (by decide)).trans (h75)) rfl ?_
                      refine ml_if2 (S1 := (279, [(0, .ref m0)], [], M_235)) (S2 := (243, [(0, .ref m0), (3, .int i235_3)], [], M_235)) rfl rfl rfl (fun c_240 => ?_) (fun c_240 => ?_)
                      · have c_240 : (nI mn) ≤ i235_3 := of_decide_eq_true c_240
                        refine ml_st (S' := (280, [(0, .ref m0)], [.ref m0], M_235)) rfl rfl rfl ?_
                        refine rg_int (S' := (283, [(0, .ref m0)], [.int w8], M_235)) rfl hR_235 rfl (h76b) rfl ?_
                        refine ml_if (S1 := (290, [(0, .ref m0)], [], M_235)) (S2 := (286, [(0, .ref m0)], [], M_235)) rfl rfl rfl (fun c_283 => ?_) (fun c_283 => ?_)
                        · have c_283 : 0 ≤ w8 := of_decide_eq_true c_283
                          refine ml_st (S' := (291, [], [.int 0], M_235)) rfl rfl rfl ?_
                          have hC58 : CK n ca cl I_235 R_235 := (((hCK.mono (cIx hI_68 (by decide)) (cRx hV_68 (by decide))).mono (cIx hI_91 (by decide)) (cRx hV_91 (by decide))).mono (cIx hI_235 (by decide)) (cRx hV_235 (by decide)))
                          exact ml_ret rfl (r_z (Or.inl rfl)) (⟨_, _, _, rfl, hR_235, (((((((((eqI.rf.put f15 (by decide)).put f20 (by decide)).put f25 (by decide)).put f30 (by decide)).put f35 (by decide)).put f40 (by decide)).tr hI_68 (by decide)).tr hI_91 (by decide)).tr hI_235 (by decide)), (((eqR.rf.tr hV_68 (by decide)).tr hV_91 (by decide)).tr hV_235 (by decide)), Or.inl rfl, ⟨⟨ca, cl, w8, mx, mn, hC58, (hI_235 75 (by decide)).trans (h75), h76b, (hI_235 79 (by decide)).trans ((hI_91 79 (by decide)).trans ((hI_68 79 (by decide)).trans ((f40 79 (by decide)).trans ((f35 79 (by decide)).trans (e29))))), by omega, hkb.eq (hV_235 81 (by decide)), fun k hk => by obtain ⟨p, hp, hi⟩ := hbg k hk; exact ⟨p, (congrFun (hV_235 80 (by decide)) _).trans hp, hi, fun hw => by first | exact hal hw k (by have q := i_le c_240; rw [nI_val (by omega)] at q; omega) p hp | exact absurd hw (Int32.not_lt.mpr c_247)⟩⟩, (hI_235 74 (by decide)).trans ((hI_91 74 (by decide)).trans ((hI_68 74 (by decide)).trans ((f40 74 (by decide)).trans ((f35 74 (by decide)).trans ((f30 74 (by decide)).trans ((f25 74 (by decide)).trans ((f20 74 (by decide)).trans (e14)))))))), Or.inl rfl⟩⟩)
                        · have c_283 : ¬ (0 ≤ w8) := of_decide_eq_false c_283
                          refine ml_st (S' := (287, [(0, .ref m0)], [.int 1], M_235)) rfl rfl rfl ?_
                          refine ml_st (S' := (291, [], [.int 1], M_235)) rfl rfl rfl ?_
                          have hC59 : CK n ca cl I_235 R_235 := (((hCK.mono (cIx hI_68 (by decide)) (cRx hV_68 (by decide))).mono (cIx hI_91 (by decide)) (cRx hV_91 (by decide))).mono (cIx hI_235 (by decide)) (cRx hV_235 (by decide)))
                          exact ml_ret rfl (r_z (Or.inr rfl)) (⟨_, _, _, rfl, hR_235, (((((((((eqI.rf.put f15 (by decide)).put f20 (by decide)).put f25 (by decide)).put f30 (by decide)).put f35 (by decide)).put f40 (by decide)).tr hI_68 (by decide)).tr hI_91 (by decide)).tr hI_235 (by decide)), (((eqR.rf.tr hV_68 (by decide)).tr hV_91 (by decide)).tr hV_235 (by decide)), Or.inr rfl, ⟨⟨ca, cl, w8, mx, mn, hC59, (hI_235 75 (by decide)).trans (h75), h76b, (hI_235 79 (by decide)).trans ((hI_91 79 (by decide)).trans ((hI_68 79 (by decide)).trans ((f40 79 (by decide)).trans ((f35 79 (by decide)).trans (e29))))), by omega, hkb.eq (hV_235 81 (by decide)), fun k hk => by obtain ⟨p, hp, hi⟩ := hbg k hk; exact ⟨p, (congrFun (hV_235 80 (by decide)) _).trans hp, hi, fun hw => by first | exact hal hw k (by have q := i_le c_240; rw [nI_val (by omega)] at q; omega) p hp | exact absurd hw (Int32.not_lt.mpr c_247)⟩⟩, (hI_235 74 (by decide)).trans ((hI_91 74 (by decide)).trans ((hI_68 74 (by decide)).trans ((f40 74 (by decide)).trans ((f35 74 (by decide)).trans ((f30 74 (by decide)).trans ((f25 74 (by decide)).trans ((f20 74 (by decide)).trans (e14)))))))), Or.inr ⟨w8, h76b, Int32.not_le.mp c_283⟩⟩⟩)
                      · have c_240 : ¬ ((nI mn) ≤ i235_3) := of_decide_eq_false c_240
                        refine ml_st (S' := (244, [(0, .ref m0), (3, .int i235_3)], [.ref m0], M_235)) rfl rfl rfl ?_
                        refine rg_int (S' := (247, [(0, .ref m0), (3, .int i235_3)], [.int w8], M_235)) rfl hR_235 rfl (h76b) rfl ?_
                        refine ml_if (S1 := (279, [(0, .ref m0)], [], M_235)) (S2 := (250, [(0, .ref m0), (3, .int i235_3)], [], M_235)) rfl rfl rfl (fun c_247 => ?_) (fun c_247 => ?_)
                        · have c_247 : 0 ≤ w8 := of_decide_eq_true c_247
                          refine ml_st (S' := (280, [(0, .ref m0)], [.ref m0], M_235)) rfl rfl rfl ?_
                          refine rg_int (S' := (283, [(0, .ref m0)], [.int w8], M_235)) rfl hR_235 rfl (h76b) rfl ?_
                          refine ml_if (S1 := (290, [(0, .ref m0)], [], M_235)) (S2 := (286, [(0, .ref m0)], [], M_235)) rfl rfl rfl (fun c_283 => ?_) (fun c_283 => ?_)
                          · have c_283 : 0 ≤ w8 := of_decide_eq_true c_283
                            refine ml_st (S' := (291, [], [.int 0], M_235)) rfl rfl rfl ?_
                            have hC60 : CK n ca cl I_235 R_235 := (((hCK.mono (cIx hI_68 (by decide)) (cRx hV_68 (by decide))).mono (cIx hI_91 (by decide)) (cRx hV_91 (by decide))).mono (cIx hI_235 (by decide)) (cRx hV_235 (by decide)))
                            exact ml_ret rfl (r_z (Or.inl rfl)) (⟨_, _, _, rfl, hR_235, (((((((((eqI.rf.put f15 (by decide)).put f20 (by decide)).put f25 (by decide)).put f30 (by decide)).put f35 (by decide)).put f40 (by decide)).tr hI_68 (by decide)).tr hI_91 (by decide)).tr hI_235 (by decide)), (((eqR.rf.tr hV_68 (by decide)).tr hV_91 (by decide)).tr hV_235 (by decide)), Or.inl rfl, ⟨⟨ca, cl, w8, mx, mn, hC60, (hI_235 75 (by decide)).trans (h75), h76b, (hI_235 79 (by decide)).trans ((hI_91 79 (by decide)).trans ((hI_68 79 (by decide)).trans ((f40 79 (by decide)).trans ((f35 79 (by decide)).trans (e29))))), by omega, hkb.eq (hV_235 81 (by decide)), fun k hk => by obtain ⟨p, hp, hi⟩ := hbg k hk; exact ⟨p, (congrFun (hV_235 80 (by decide)) _).trans hp, hi, fun hw => by first | exact hal hw k (by have q := i_le c_240; rw [nI_val (by omega)] at q; omega) p hp | exact absurd hw (Int32.not_lt.mpr c_247)⟩⟩, (hI_235 74 (by decide)).trans ((hI_91 74 (by decide)).trans ((hI_68 74 (by decide)).trans ((f40 74 (by decide)).trans ((f35 74 (by decide)).trans ((f30 74 (by decide)).trans ((f25 74 (by decide)).trans ((f20 74 (by decide)).trans (e14)))))))), Or.inl rfl⟩⟩)
                          · have c_283 : ¬ (0 ≤ w8) := of_decide_eq_false c_283
                            refine ml_st (S' := (287, [(0, .ref m0)], [.int 1], M_235)) rfl rfl rfl ?_
                            refine ml_st (S' := (291, [], [.int 1], M_235)) rfl rfl rfl ?_
                            have hC61 : CK n ca cl I_235 R_235 := (((hCK.mono (cIx hI_68 (by decide)) (cRx hV_68 (by decide))).mono (cIx hI_91 (by decide)) (cRx hV_91 (by decide))).mono (cIx hI_235 (by decide)) (cRx hV_235 (by decide)))
                            exact ml_ret rfl (r_z (Or.inr rfl)) (⟨_, _, _, rfl, hR_235, (((((((((eqI.rf.put f15 (by decide)).put f20 (by decide)).put f25 (by decide)).put f30 (by decide)).put f35 (by decide)).put f40 (by decide)).tr hI_68 (by decide)).tr hI_91 (by decide)).tr hI_235 (by decide)), (((eqR.rf.tr hV_68 (by decide)).tr hV_91 (by decide)).tr hV_235 (by decide)), Or.inr rfl, ⟨⟨ca, cl, w8, mx, mn, hC61, (hI_235 75 (by decide)).trans (h75), h76b, (hI_235 79 (by decide)).trans ((hI_91 79 (by decide)).trans ((hI_68 79 (by decide)).trans ((f40 79 (by decide)).trans ((f35 79 (by decide)).trans (e29))))), by omega, hkb.eq (hV_235 81 (by decide)), fun k hk => by obtain ⟨p, hp, hi⟩ := hbg k hk; exact ⟨p, (congrFun (hV_235 80 (by decide)) _).trans hp, hi, fun hw => by first | exact hal hw k (by have q := i_le c_240; rw [nI_val (by omega)] at q; omega) p hp | exact absurd hw (Int32.not_lt.mpr c_247)⟩⟩, (hI_235 74 (by decide)).trans ((hI_91 74 (by decide)).trans ((hI_68 74 (by decide)).trans ((f40 74 (by decide)).trans ((f35 74 (by decide)).trans ((f30 74 (by decide)).trans ((f25 74 (by decide)).trans ((f20 74 (by decide)).trans (e14)))))))), Or.inr ⟨w8, h76b, Int32.not_le.mp c_283⟩⟩⟩)
                        · have c_247 : ¬ (0 ≤ w8) := of_decide_eq_false c_247
                          have hkl : i235_3.toInt < mn := by have q := i_nle c_240; rw [nI_val (by omega)] at q; exact q
                          obtain ⟨p9, hp9, hi9⟩ := hbg i235_3.toNatClampNeg (by show i235_3.toInt.toNat < mn; omega)
                          have hkb9 : KB 81 cl.toInt.toNat R_235 := hkb.eq (hV_235 81 (by decide))
                          refine ml_blk 2 (S' := (252, [(0, .ref m0), (3, .int i235_3)], [.ref m0, .ref m0], M_235)) rfl ?_
                          refine rg_ref (S' := (255, [(0, .ref m0), (3, .int i235_3)], [.ref (q 80), .ref m0], M_235)) rfl hR_235 rfl rfl ?_
                          refine ml_st (S' := (256, [(0, .ref m0), (3, .int i235_3)], [.int i235_3, .ref (q 80), .ref m0], M_235)) rfl rfl rfl ?_
                          refine ra_ld (k := 80) (S' := (257, [(0, .ref m0), (3, .int i235_3)], [.int p9, .ref m0], M_235)) rfl hR_235 rfl (vin_lt hk0 (by omega)) ((congrFun (hV_235 80 (by decide)) _).trans hp9) rfl ?_
                          have hF62 : FK n f I_235 R_235 := (((((((((hF.mono (pIx f15 (by decide)) (fun _ _ => rfl)).mono (pIx f20 (by decide)) (fun _ _ => rfl)).mono (pIx f25 (by decide)) (fun _ _ => rfl)).mono (pIx f30 (by decide)) (fun _ _ => rfl)).mono (pIx f35 (by decide)) (fun _ _ => rfl)).mono (pIx f40 (by decide)) (fun _ _ => rfl)).mono (cIx hI_68 (by decide)) (cRx hV_68 (by decide))).mono (cIx hI_91 (by decide)) (cRx hV_91 (by decide))).mono (cIx hI_235 (by decide)) (cRx hV_235 (by decide)))
                          have hC63 : CK n ca cl I_235 R_235 := (((hCK.mono (cIx hI_68 (by decide)) (cRx hV_68 (by decide))).mono (cIx hI_91 (by decide)) (cRx hV_91 (by decide))).mono (cIx hI_235 (by decide)) (cRx hV_235 (by decide)))
                          refine ml_call (a := [.ref m0, .int p9]) (rest := []) rfl (hR_235.okc rfl rfl rfl) rfl rfl (rm_aims hR_235 hF62 hC63 (hi9) (hkb9) (by omega)) (fun v64 M65 h66 => ?_)
                          obtain ⟨⟨u67, rfl, z68, w69⟩, h66⟩ := h66
                          rw [h66]
                          show ml _ _ _ (260, [(0, .ref m0), (3, .int i235_3)], [.int u67], M_235) _
                          have haimx := w69
                          refine ml_if (S1 := (273, [(0, .ref m0), (3, .int i235_3)], [], M_235)) (S2 := (263, [(0, .ref m0), (3, .int i235_3)], [], M_235)) rfl rfl rfl (fun c_260 => ?_) (fun c_260 => ?_)
                          · have c_260 : ¬ u67 = 0 := of_decide_eq_true c_260
                            have haim := haimx.resolve_left c_260
                            refine ml_st (S' := (276, [(3, .int (i235_3 + 1)), (0, .ref m0)], [], M_235)) rfl rfl rfl ?_
                            refine ml_st (S' := (235, [(0, .ref m0), (3, .int (i235_3 + 1))], [], M_235)) rfl rfl rfl ?_
                            exact ih_235 (i235_3 + 1) w8 _ _ _ (loop_inc (Int32.not_le.mp c_240) hn_235) hR_235 (eqI.rf.tr hI_235 (by decide)) (eqR.rf.tr hV_235 (by decide)) (⟨by rw [inc_lt (Int32.not_le.mp c_240)]; omega, by rw [inc_lt (Int32.not_le.mp c_240)]; omega, h76b, fun hw j hj p hp => by rw [inc_lt (Int32.not_le.mp c_240)] at hj; have e9 : i235_3.toNatClampNeg = i235_3.toInt.toNat := rfl; by_cases e : j = i235_3.toNatClampNeg; (have e2 : some p9 = some p := hp9.symm.trans (e ▸ hp); cases e2; exact haim); exact hal hw j (by omega) p hp⟩)
                          · have c_260 : ¬ (¬ u67 = 0) := of_decide_eq_false c_260
                            refine ml_blk 2 (S' := (265, [(0, .ref m0), (3, .int i235_3)], [.ref m0, .ref m0], M_235)) rfl ?_
                            refine rg_ref (S' := (268, [(0, .ref m0), (3, .int i235_3)], [.ref (q 80), .ref m0], M_235)) rfl hR_235 rfl rfl ?_
                            refine ml_st (S' := (269, [(0, .ref m0), (3, .int i235_3)], [.int i235_3, .ref (q 80), .ref m0], M_235)) rfl rfl rfl ?_
                            refine ra_ld (k := 80) (S' := (270, [(0, .ref m0), (3, .int i235_3)], [.int p9, .ref m0], M_235)) rfl hR_235 rfl (vin_lt hk0 (by omega)) ((congrFun (hV_235 80 (by decide)) _).trans hp9) rfl ?_
                            refine rp_int rfl hR_235 rfl (fun M70 I71 hR72 e73 f74 => ?_)
                            show ml _ _ _ (273, [(0, .ref m0), (3, .int i235_3)], [], M70) _
                            refine ml_st (S' := (276, [(3, .int (i235_3 + 1)), (0, .ref m0)], [], M70)) rfl rfl rfl ?_
                            refine ml_st (S' := (235, [(0, .ref m0), (3, .int (i235_3 + 1))], [], M70)) rfl rfl rfl ?_
                            exact ih_235 (i235_3 + 1) p9 _ _ _ (loop_inc (Int32.not_le.mp c_240) hn_235) hR72 ((eqI.rf.tr hI_235 (by decide)).put f74 (by decide)) (eqR.rf.tr hV_235 (by decide)) (⟨by rw [inc_lt (Int32.not_le.mp c_240)]; omega, by rw [inc_lt (Int32.not_le.mp c_240)]; omega, e73, fun hw => absurd hw (nlt0 hi9.1)⟩)
                  exact L_235 _ 0 w9 _ _ _ (Nat.le_refl _) hR_91 eqI.rf eqR.rf (⟨by decide, by have : (0 : Int32).toInt = 0 := rfl; omega, h76, fun _ j hj => absurd hj (Nat.not_lt_zero j)⟩)
                · have c_103 : ¬ (0 ≤ w9) := of_decide_eq_false c_103
                  have hlt := i_nle c_96
                  refine ml_blk 2 (S' := (108, [(0, .ref m0), (2, .int i91_2)], [.int i91_2, .ref m0], M_91)) rfl ?_
                  have hF75 : FK n f I_91 R_91 := ((((((((hF.mono (pIx f15 (by decide)) (fun _ _ => rfl)).mono (pIx f20 (by decide)) (fun _ _ => rfl)).mono (pIx f25 (by decide)) (fun _ _ => rfl)).mono (pIx f30 (by decide)) (fun _ _ => rfl)).mono (pIx f35 (by decide)) (fun _ _ => rfl)).mono (pIx f40 (by decide)) (fun _ _ => rfl)).mono (cIx hI_68 (by decide)) (cRx hV_68 (by decide))).mono (cIx hI_91 (by decide)) (cRx hV_91 (by decide)))
                  have hC76 : CK n ca cl I_91 R_91 := ((hCK.mono (cIx hI_68 (by decide)) (cRx hV_68 (by decide))).mono (cIx hI_91 (by decide)) (cRx hV_91 (by decide)))
                  refine ml_call (a := [.ref m0, .int i91_2]) (rest := []) rfl (hR_91.okc rfl rfl rfl) rfl rfl (rm_b1 hR_91 hF75 hC76 (hp0) (by omega) (by omega)) (fun v77 M78 h79 => ?_)
                  obtain ⟨rfl, h79⟩ := h79
                  rw [h79]
                  show ml _ _ _ (111, [(0, .ref m0), (2, .int i91_2)], [.int (f1 f (ca + i91_2))], M_91) _
                  refine ml_st (S' := (112, [(3, .int (f1 f (ca + i91_2))), (0, .ref m0), (2, .int i91_2)], [], M_91)) rfl rfl rfl ?_
                  refine ml_blk 2 (S' := (116, [(3, .int (f1 f (ca + i91_2))), (0, .ref m0), (2, .int i91_2)], [.int 201, .int (f1 f (ca + i91_2))], M_91)) rfl ?_
                  have J_163 : ∀ (s163_0 : Int32), (s163_0 < 0 ∨ INP f ca cl i91_2 s163_0) → ml (mT g) d (mb_200 g).2 (163, [(0, .ref m0), (2, .int i91_2), (3, .int (f1 f (ca + i91_2)))], [.int s163_0], M_91) (fun v M' => ∃ (x : Int32) (I' : rI) (R' : rR), v = some (.int x) ∧ RS g m0 q z I' R' M' ∧ eqI [74, 75, 76, 77, 78, 79] I I' ∧ eqR [80, 81] R R' ∧ (x = 0 ∨ x = 1) ∧ (CUT f n I' R' ∧ I' 74 = some x1 ∧ (x = 0 ∨ ∃ w : Int32, I' 76 = some w ∧ w < 0))) := by
                    intro s163_0 hj_163
                    refine ml_st (S' := (165, [(4, .int s163_0), (0, .ref m0), (2, .int i91_2), (3, .int (f1 f (ca + i91_2)))], [], M_91)) rfl rfl rfl ?_
                    refine ml_st (S' := (167, [(4, .int s163_0), (0, .ref m0), (2, .int i91_2), (3, .int (f1 f (ca + i91_2)))], [.int s163_0], M_91)) rfl rfl rfl ?_
                    refine ml_if (S1 := (190, [(0, .ref m0), (2, .int i91_2)], [], M_91)) (S2 := (170, [(4, .int s163_0), (0, .ref m0), (2, .int i91_2), (3, .int (f1 f (ca + i91_2)))], [], M_91)) rfl rfl rfl (fun c_167 => ?_) (fun c_167 => ?_)
                    · have c_167 : s163_0 < 0 := of_decide_eq_true c_167
                      refine ml_blk 2 (S' := (192, [(0, .ref m0), (2, .int i91_2)], [.int i91_2, .ref m0], M_91)) rfl ?_
                      refine rp_int rfl hR_91 rfl (fun M80 I81 hR82 e83 f84 => ?_)
                      show ml _ _ _ (195, [(0, .ref m0), (2, .int i91_2)], [], M80) _
                      refine ml_st (S' := (230, [(0, .ref m0), (2, .int i91_2)], [], M80)) rfl rfl rfl ?_
                      refine ml_st (S' := (91, [(0, .ref m0), (2, .int i91_2)], [], M80)) rfl rfl rfl ?_
                      exact ih_91 i91_2 mn i91_2 _ _ _ (by rw [if_pos (Int32.not_le.mp c_103)] at hn_91; rw [if_neg (nlt0 hp0)]; omega) hR82 ((eqI.rf.tr hI_91 (by decide)).put f84 (by decide)) (eqR.rf.tr hV_91 (by decide)) (⟨hp0, hp1, hmn, (f84 75 (by decide)).trans (h75), e83, hkb, hbg⟩)
                    · have c_167 : ¬ (s163_0 < 0) := of_decide_eq_false c_167
                      have hip := hj_163.resolve_left c_167
                      have hsum : (i91_2 + s163_0).toInt = i91_2.toInt + s163_0.toInt := i_add (by have := hip.1; omega) (by have := hip.2.1; omega)
                      refine ml_blk 3 (S' := (174, [(4, .int s163_0), (0, .ref m0), (2, .int i91_2), (3, .int (f1 f (ca + i91_2)))], [.int (i91_2 + s163_0)], M_91)) rfl ?_
                      refine ml_st (S' := (175, [(4, .int s163_0), (0, .ref m0), (2, .int i91_2), (3, .int (f1 f (ca + i91_2)))], [.ref m0, .int (i91_2 + s163_0)], M_91)) rfl rfl rfl ?_
                      refine rg_int (S' := (178, [(4, .int s163_0), (0, .ref m0), (2, .int i91_2), (3, .int (f1 f (ca + i91_2)))], [.int cl, .int (i91_2 + s163_0)], M_91)) rfl hR_91 rfl ((hI_91 78 (by decide)).trans ((hI_68 78 (by decide)).trans ((f40 78 (by decide)).trans ((f35 78 (by decide)).trans ((f30 78 (by decide)).trans (e24)))))) rfl ?_
                      refine ml_if2 (S1 := (190, [(0, .ref m0), (2, .int i91_2)], [], M_91)) (S2 := (181, [(4, .int s163_0), (0, .ref m0), (2, .int i91_2), (3, .int (f1 f (ca + i91_2)))], [], M_91)) rfl rfl rfl (fun c_178 => ?_) (fun c_178 => ?_)
                      · have c_178 : cl < (i91_2 + s163_0) := of_decide_eq_true c_178
                        refine ml_blk 2 (S' := (192, [(0, .ref m0), (2, .int i91_2)], [.int i91_2, .ref m0], M_91)) rfl ?_
                        refine rp_int rfl hR_91 rfl (fun M85 I86 hR87 e88 f89 => ?_)
                        show ml _ _ _ (195, [(0, .ref m0), (2, .int i91_2)], [], M85) _
                        refine ml_st (S' := (230, [(0, .ref m0), (2, .int i91_2)], [], M85)) rfl rfl rfl ?_
                        refine ml_st (S' := (91, [(0, .ref m0), (2, .int i91_2)], [], M85)) rfl rfl rfl ?_
                        exact ih_91 i91_2 mn i91_2 _ _ _ (by rw [if_pos (Int32.not_le.mp c_103)] at hn_91; rw [if_neg (nlt0 hp0)]; omega) hR87 ((eqI.rf.tr hI_91 (by decide)).put f89 (by decide)) (eqR.rf.tr hV_91 (by decide)) (⟨hp0, hp1, hmn, (f89 75 (by decide)).trans (h75), e88, hkb, hbg⟩)
                      · have c_178 : ¬ (cl < (i91_2 + s163_0)) := of_decide_eq_false c_178
                        have hle : i91_2.toInt + s163_0.toInt ≤ cl.toInt := by have q := i_nlt c_178; omega
                        refine ml_blk 3 (S' := (184, [(4, .int s163_0), (0, .ref m0), (2, .int i91_2), (3, .int (f1 f (ca + i91_2)))], [.int (f1 f (ca + i91_2)), .int i91_2, .ref m0], M_91)) rfl ?_
                        have hY90 : SK S cN sa sl ch I_91 R_91 := ((((((((hY.mono (pIx f15 (by decide)) (fun _ _ => rfl)).mono (pIx f20 (by decide)) (fun _ _ => rfl)).mono (pIx f25 (by decide)) (fun _ _ => rfl)).mono (pIx f30 (by decide)) (fun _ _ => rfl)).mono (pIx f35 (by decide)) (fun _ _ => rfl)).mono (pIx f40 (by decide)) (fun _ _ => rfl)).mono (cIx hI_68 (by decide)) (cRx hV_68 (by decide))).mono (cIx hI_91 (by decide)) (cRx hV_91 (by decide)))
                        have hP91 : PK n f S cp mj pa py I_91 R_91 := ((((((((hP.mono (pIx f15 (by decide)) (fun _ _ => rfl)).mono (pIx f20 (by decide)) (fun _ _ => rfl)).mono (pIx f25 (by decide)) (fun _ _ => rfl)).mono (pIx f30 (by decide)) (fun _ _ => rfl)).mono (pIx f35 (by decide)) (fun _ _ => rfl)).mono (pIx f40 (by decide)) (fun _ _ => rfl)).mono (cIx hI_68 (by decide)) (cRx hV_68 (by decide))).mono (cIx hI_91 (by decide)) (cRx hV_91 (by decide)))
                        refine ml_call (a := [.ref m0, .int i91_2, .int (f1 f (ca + i91_2))]) (rest := []) rfl (hR_91.okc rfl rfl rfl) rfl rfl (rm_operands hR_91 ((hI_91 9 (by decide)).trans ((hI_68 9 (by decide)).trans ((f40 9 (by decide)).trans ((f35 9 (by decide)).trans ((f30 9 (by decide)).trans ((f25 9 (by decide)).trans ((f20 9 (by decide)).trans ((f15 9 (by decide)).trans (hk9))))))))) ((hI_91 79 (by decide)).trans ((hI_68 79 (by decide)).trans ((f40 79 (by decide)).trans ((f35 79 (by decide)).trans (e29))))) hF75 hY90 hP91 hE hC76 (hp0) (hip.2.2.1) (hle) (by omega)) (fun v92 M93 h94 => ?_)
                        obtain ⟨⟨u95, rfl, z96⟩, h94⟩ := h94
                        rw [h94]
                        show ml _ _ _ (187, [(4, .int s163_0), (0, .ref m0), (2, .int i91_2), (3, .int (f1 f (ca + i91_2)))], [.int u95], M_91) _
                        refine ml_if (S1 := (198, [(4, .int s163_0), (0, .ref m0), (2, .int i91_2), (3, .int (f1 f (ca + i91_2)))], [], M_91)) (S2 := (190, [(0, .ref m0), (2, .int i91_2)], [], M_91)) rfl rfl rfl (fun c_187 => ?_) (fun c_187 => ?_)
                        · have c_187 : ¬ u95 = 0 := of_decide_eq_true c_187
                          have hins : INS f ca cl i91_2 := ⟨hp0, s163_0.toInt, hip.1, hle, hip.2.2.1, hip.2.2.2.1, hip.2.2.2.2⟩
                          have hN1 := nI_s1 (c := mn) (by omega)
                          have hNv : (nI mn).toInt = mn := nI_val (by omega)
                          have hip1 := hip.1
                          refine ml_st (S' := (199, [(4, .int s163_0), (0, .ref m0), (2, .int i91_2), (3, .int (f1 f (ca + i91_2)))], [.ref m0], M_91)) rfl rfl rfl ?_
                          refine rg_ref (S' := (202, [(4, .int s163_0), (0, .ref m0), (2, .int i91_2), (3, .int (f1 f (ca + i91_2)))], [.ref (q 81)], M_91)) rfl hR_91 rfl rfl ?_
                          refine ml_blk 2 (S' := (204, [(4, .int s163_0), (0, .ref m0), (2, .int i91_2), (3, .int (f1 f (ca + i91_2)))], [.ref m0, .int i91_2, .ref (q 81)], M_91)) rfl ?_
                          refine rg_int (S' := (207, [(4, .int s163_0), (0, .ref m0), (2, .int i91_2), (3, .int (f1 f (ca + i91_2)))], [.int (nI mn), .int i91_2, .ref (q 81)], M_91)) rfl hR_91 rfl (h75) rfl ?_
                          refine ra_st (k := 81) rfl hR_91 rfl (vin_lt hp0 (by omega)) (fun M97 R98 hR99 e100 g101 f102 => ?_)
                          show ml _ _ _ (208, [(4, .int s163_0), (0, .ref m0), (2, .int i91_2), (3, .int (f1 f (ca + i91_2)))], [], M97) _
                          refine ml_st (S' := (209, [(4, .int s163_0), (0, .ref m0), (2, .int i91_2), (3, .int (f1 f (ca + i91_2)))], [.ref m0], M97)) rfl rfl rfl ?_
                          refine rg_ref (S' := (212, [(4, .int s163_0), (0, .ref m0), (2, .int i91_2), (3, .int (f1 f (ca + i91_2)))], [.ref (q 80)], M97)) rfl hR99 rfl rfl ?_
                          refine ml_blk 2 (S' := (214, [(4, .int s163_0), (0, .ref m0), (2, .int i91_2), (3, .int (f1 f (ca + i91_2)))], [.ref m0, .ref m0, .ref (q 80)], M97)) rfl ?_
                          refine rg_int (S' := (217, [(4, .int s163_0), (0, .ref m0), (2, .int i91_2), (3, .int (f1 f (ca + i91_2)))], [.int (nI mn), .ref m0, .ref (q 80)], M97)) rfl hR99 rfl (h75) rfl ?_
                          refine ml_blk 3 (S' := (220, [(4, .int s163_0), (0, .ref m0), (2, .int i91_2), (3, .int (f1 f (ca + i91_2)))], [.int ((nI mn) + 1), .ref m0, .int (nI mn), .ref (q 80)], M97)) rfl ?_
                          refine rp_int rfl hR99 rfl (fun M103 I104 hR105 e106 f107 => ?_)
                          show ml _ _ _ (223, [(4, .int s163_0), (0, .ref m0), (2, .int i91_2), (3, .int (f1 f (ca + i91_2)))], [.int (nI mn), .ref (q 80)], M103) _
                          refine ml_st (S' := (224, [(4, .int s163_0), (0, .ref m0), (2, .int i91_2), (3, .int (f1 f (ca + i91_2)))], [.int i91_2, .int (nI mn), .ref (q 80)], M103)) rfl rfl rfl ?_
                          refine ra_st (k := 80) rfl hR105 rfl (vin_lt (by omega) (by omega)) (fun M108 R109 hR110 e111 g112 f113 => ?_)
                          show ml _ _ _ (225, [(4, .int s163_0), (0, .ref m0), (2, .int i91_2), (3, .int (f1 f (ca + i91_2)))], [], M108) _
                          refine ml_blk 3 (S' := (229, [(4, .int s163_0), (0, .ref m0), (2, .int i91_2), (3, .int (f1 f (ca + i91_2)))], [.int (i91_2 + s163_0)], M108)) rfl ?_
                          refine ml_st (S' := (230, [(0, .ref m0), (2, .int (i91_2 + s163_0))], [], M108)) rfl rfl rfl ?_
                          refine ml_st (S' := (91, [(0, .ref m0), (2, .int (i91_2 + s163_0))], [], M108)) rfl rfl rfl ?_
                          exact ih_91 (i91_2 + s163_0) (mn + 1) w9 _ _ _ (by rw [if_pos (Int32.not_le.mp c_103)] at hn_91; rw [if_pos (Int32.not_le.mp c_103)]; omega) hR110 ((eqI.rf.tr hI_91 (by decide)).put f107 (by decide)) (((eqR.rf.tr hV_91 (by decide)).put f102 (by decide)).put f113 (by decide)) (⟨by omega, by omega, by omega, by rw [← hN1]; exact e106, (f107 76 (by decide)).trans (h76), (hkb.set e100 g101).eq (f113 81 (by decide)), (hbg.eq (f102 80 (by decide))).put hNv e111 g112 hins⟩)
                        · have c_187 : ¬ (¬ u95 = 0) := of_decide_eq_false c_187
                          refine ml_blk 2 (S' := (192, [(0, .ref m0), (2, .int i91_2)], [.int i91_2, .ref m0], M_91)) rfl ?_
                          refine rp_int rfl hR_91 rfl (fun M114 I115 hR116 e117 f118 => ?_)
                          show ml _ _ _ (195, [(0, .ref m0), (2, .int i91_2)], [], M114) _
                          refine ml_st (S' := (230, [(0, .ref m0), (2, .int i91_2)], [], M114)) rfl rfl rfl ?_
                          refine ml_st (S' := (91, [(0, .ref m0), (2, .int i91_2)], [], M114)) rfl rfl rfl ?_
                          exact ih_91 i91_2 mn i91_2 _ _ _ (by rw [if_pos (Int32.not_le.mp c_103)] at hn_91; rw [if_neg (nlt0 hp0)]; omega) hR116 ((eqI.rf.tr hI_91 (by decide)).put f118 (by decide)) (eqR.rf.tr hV_91 (by decide)) (⟨hp0, hp1, hmn, (f118 75 (by decide)).trans (h75), e117, hkb, hbg⟩)
                  refine ml_if2 (S1 := (123, [(3, .int (f1 f (ca + i91_2))), (0, .ref m0), (2, .int i91_2)], [], M_91)) (S2 := (119, [(3, .int (f1 f (ca + i91_2))), (0, .ref m0), (2, .int i91_2)], [], M_91)) rfl rfl rfl (fun c_116 => ?_) (fun c_116 => ?_)
                  · have c_116 : (f1 f (ca + i91_2)) ≤ 201 := of_decide_eq_true c_116
                    refine ml_blk 2 (S' := (127, [(3, .int (f1 f (ca + i91_2))), (0, .ref m0), (2, .int i91_2)], [.int 170, .int (f1 f (ca + i91_2))], M_91)) rfl ?_
                    have J_144 : ((f1 f (ca + i91_2) = 170 ∨ f1 f (ca + i91_2) = 171) ∨ f1 f (ca + i91_2) = 196) → ml (mT g) d (mb_200 g).2 (144, [(0, .ref m0), (2, .int i91_2), (3, .int (f1 f (ca + i91_2)))], [], M_91) (fun v M' => ∃ (x : Int32) (I' : rI) (R' : rR), v = some (.int x) ∧ RS g m0 q z I' R' M' ∧ eqI [74, 75, 76, 77, 78, 79] I I' ∧ eqR [80, 81] R R' ∧ (x = 0 ∨ x = 1) ∧ (CUT f n I' R' ∧ I' 74 = some x1 ∧ (x = 0 ∨ ∃ w : Int32, I' 76 = some w ∧ w < 0))) := by
                      intro hj_144
                      refine ml_blk 3 (S' := (147, [(0, .ref m0), (2, .int i91_2), (3, .int (f1 f (ca + i91_2)))], [.int (f1 f (ca + i91_2)), .int i91_2, .ref m0], M_91)) rfl ?_
                      refine ml_call (a := [.ref m0, .int i91_2, .int (f1 f (ca + i91_2))]) (rest := []) rfl (hR_91.okc rfl rfl rfl) rfl rfl (rm_formed hR_91 hF75 hC76 (hp0) (hlt) (rfl) (hj_144) (by omega)) (fun v119 M120 h121 => ?_)
                      obtain ⟨⟨u122, rfl, w123⟩, h121⟩ := h121
                      rw [h121]
                      show ml _ _ _ (150, [(0, .ref m0), (2, .int i91_2), (3, .int (f1 f (ca + i91_2)))], [.int u122], M_91) _
                      refine ml_st (S' := (163, [(0, .ref m0), (2, .int i91_2), (3, .int (f1 f (ca + i91_2)))], [.int u122], M_91)) rfl rfl rfl ?_
                      exact J_163 u122 (w123.imp id (fun h => frm_ok hj_144 h))
                    refine ml_if2 (S1 := (144, [(0, .ref m0), (2, .int i91_2), (3, .int (f1 f (ca + i91_2)))], [], M_91)) (S2 := (130, [(3, .int (f1 f (ca + i91_2))), (0, .ref m0), (2, .int i91_2)], [], M_91)) rfl rfl rfl (fun c_127 => ?_) (fun c_127 => ?_)
                    · have c_127 : (f1 f (ca + i91_2)) = 170 := of_decide_eq_true c_127
                      exact J_144  (Or.inl (Or.inl c_127))
                    · have c_127 : ¬ ((f1 f (ca + i91_2)) = 170) := of_decide_eq_false c_127
                      refine ml_blk 2 (S' := (134, [(3, .int (f1 f (ca + i91_2))), (0, .ref m0), (2, .int i91_2)], [.int 171, .int (f1 f (ca + i91_2))], M_91)) rfl ?_
                      refine ml_if2 (S1 := (144, [(0, .ref m0), (2, .int i91_2), (3, .int (f1 f (ca + i91_2)))], [], M_91)) (S2 := (137, [(3, .int (f1 f (ca + i91_2))), (0, .ref m0), (2, .int i91_2)], [], M_91)) rfl rfl rfl (fun c_134 => ?_) (fun c_134 => ?_)
                      · have c_134 : (f1 f (ca + i91_2)) = 171 := of_decide_eq_true c_134
                        exact J_144  (Or.inl (Or.inr c_134))
                      · have c_134 : ¬ ((f1 f (ca + i91_2)) = 171) := of_decide_eq_false c_134
                        refine ml_blk 2 (S' := (141, [(3, .int (f1 f (ca + i91_2))), (0, .ref m0), (2, .int i91_2)], [.int 196, .int (f1 f (ca + i91_2))], M_91)) rfl ?_
                        refine ml_if2 (S1 := (153, [(3, .int (f1 f (ca + i91_2))), (0, .ref m0), (2, .int i91_2)], [], M_91)) (S2 := (144, [(0, .ref m0), (2, .int i91_2), (3, .int (f1 f (ca + i91_2)))], [], M_91)) rfl rfl rfl (fun c_141 => ?_) (fun c_141 => ?_)
                        · have c_141 : ¬ (f1 f (ca + i91_2)) = 196 := of_decide_eq_true c_141
                          refine ml_blk 2 (S' := (157, [(3, .int (f1 f (ca + i91_2))), (0, .ref m0), (2, .int i91_2)], [.int (f1 f (ca + i91_2)), .ref (g.2.1 29)], M_91)) rfl ?_
                          obtain ⟨fl124, hl125⟩ := hR_91.2.2.2.2.2 29 (by decide)
                          refine ml_scat (lk := 29) (S' := (160, [(3, .int (f1 f (ca + i91_2))), (0, .ref m0), (2, .int i91_2)], [.int (xe_ch 29 (Int32.toNatClampNeg (f1 f (ca + i91_2))))], M_91)) rfl hl125 (by decide) rfl (nlt0 f1_pos.1) (by rw [len_len]; show (f1 f (ca + i91_2)).toInt.toNat < 202; have q := i_le c_116; have : (201 : Int32).toInt = 201 := rfl; omega) rfl ?_
                          refine ml_blk 2 (S' := (163, [(0, .ref m0), (2, .int i91_2), (3, .int (f1 f (ca + i91_2)))], [.int ((xe_ch 29 (Int32.toNatClampNeg (f1 f (ca + i91_2)))) - 48)], M_91)) rfl ?_
                          exact J_163 ((xe_ch 29 (Int32.toNatClampNeg (f1 f (ca + i91_2)))) - 48) (Or.inr (len_op c_116 c_127 c_134 c_141))
                        · have c_141 : ¬ (¬ (f1 f (ca + i91_2)) = 196) := of_decide_eq_false c_141
                          exact J_144  (Or.inr (Decidable.not_not.mp c_141))
                  · have c_116 : ¬ ((f1 f (ca + i91_2)) ≤ 201) := of_decide_eq_false c_116
                    refine ml_st (S' := (120, [(3, .int (f1 f (ca + i91_2))), (0, .ref m0), (2, .int i91_2)], [.int (-1)], M_91)) rfl rfl rfl ?_
                    refine ml_st (S' := (163, [(0, .ref m0), (2, .int i91_2), (3, .int (f1 f (ca + i91_2)))], [.int (-1)], M_91)) rfl rfl rfl ?_
                    exact J_163 (-1) (Or.inl (by decide))
          exact L_91 _ 0 0 (-1) _ _ _ (Nat.le_refl _) hR_68 eqI.rf eqR.rf (⟨by decide, hcl, by decide, (hI_68 75 (by decide)).trans ((f40 75 (by decide)).trans (e34)), (hI_68 76 (by decide)).trans (e39), hkb0, fun k hk => absurd hk (Nat.not_lt_zero k)⟩)
        · have c_73 : ¬ (cl ≤ i68_2) := of_decide_eq_false c_73
          refine ml_st (S' := (77, [(0, .ref m0), (2, .int i68_2)], [.ref m0], M_68)) rfl rfl rfl ?_
          refine rg_ref (S' := (80, [(0, .ref m0), (2, .int i68_2)], [.ref (q 81)], M_68)) rfl hR_68 rfl rfl ?_
          refine ml_blk 2 (S' := (82, [(0, .ref m0), (2, .int i68_2)], [.int (-1), .int i68_2, .ref (q 81)], M_68)) rfl ?_
          refine ra_st (k := 81) rfl hR_68 rfl (vin_lt hk0 (by have := i_nle c_73; omega)) (fun M126 R127 hR128 e129 g130 f131 => ?_)
          show ml _ _ _ (83, [(0, .ref m0), (2, .int i68_2)], [], M126) _
          refine ml_st (S' := (86, [(2, .int (i68_2 + 1)), (0, .ref m0)], [], M126)) rfl rfl rfl ?_
          refine ml_st (S' := (68, [(0, .ref m0), (2, .int (i68_2 + 1))], [], M126)) rfl rfl rfl ?_
          exact ih_68 (i68_2 + 1) _ _ _ (loop_inc (Int32.not_le.mp c_73) hn_68) hR128 (eqI.rf.tr hI_68 (by decide)) ((eqR.rf.tr hV_68 (by decide)).put f131 (by decide)) (⟨by rw [inc_lt (Int32.not_le.mp c_73)]; omega, by rw [inc_lt (Int32.not_le.mp c_73)]; have := i_nle c_73; omega, by rw [show (i68_2 + 1).toInt.toNat = i68_2.toInt.toNat + 1 by rw [inc_lt (Int32.not_le.mp c_73)]; omega]; exact hk81.put (by omega) e129 g130⟩)
    exact L_68 _ 0 _ _ _ (Nat.le_refl _) hR38 eqI.rf eqR.rf (⟨by decide, hcl, fun i hi => absurd hi (Nat.not_lt_zero i)⟩)
  · have c_5 : ¬ (¬ co = x1) := of_decide_eq_false c_5
    have hc8 := hCI (Decidable.not_not.mp c_5)
    obtain ⟨ca2, cl2, wc2, mx2, mn2, hC2, h75, hw76, h79, hr2⟩ := hc8
    refine ml_st (S' := (9, [(0, .ref m0), (1, .int x1)], [.ref m0], M)) rfl rfl rfl ?_
    refine rg_int (S' := (12, [(0, .ref m0), (1, .int x1)], [.int wc2], M)) rfl hR rfl (hw76) rfl ?_
    refine ml_if (S1 := (19, [(0, .ref m0), (1, .int x1)], [], M)) (S2 := (15, [(0, .ref m0), (1, .int x1)], [], M)) rfl rfl rfl (fun c_12 => ?_) (fun c_12 => ?_)
    · have c_12 : 0 ≤ wc2 := of_decide_eq_true c_12
      refine ml_st (S' := (20, [], [.int 0], M)) rfl rfl rfl ?_
      exact ml_ret rfl (r_z (Or.inl rfl)) (⟨_, _, _, rfl, hR, eqI.rf, eqR.rf, Or.inl rfl, ⟨hCI (Decidable.not_not.mp c_5), (Decidable.not_not.mp c_5) ▸ hk74, Or.inl rfl⟩⟩)
    · have c_12 : ¬ (0 ≤ wc2) := of_decide_eq_false c_12
      refine ml_st (S' := (16, [(0, .ref m0), (1, .int x1)], [.int 1], M)) rfl rfl rfl ?_
      refine ml_st (S' := (20, [], [.int 1], M)) rfl rfl rfl ?_
      exact ml_ret rfl (r_z (Or.inr rfl)) (⟨_, _, _, rfl, hR, eqI.rf, eqR.rf, Or.inr rfl, ⟨hCI (Decidable.not_not.mp c_5), (Decidable.not_not.mp c_5) ▸ hk74, Or.inr ⟨wc2, hw76, Int32.not_le.mp c_12⟩⟩⟩)
end
section
/-! the reference: questions about a cut code (my own text) -/
section MIA8
theorem CUT.mono {f : Nat → Int32} {n : Nat} {I I' : rI} {R R' : rR} (h : CUT f n I R) (hI : ∀ k, k ∈ [75, 76, 77, 78, 79] → I' k = I k) (hR : ∀ k, k ∈ [80, 81] → R' k = R k) : CUT f n I' R' := by
  obtain ⟨ca, cl, wc, mx, mn, h1, h2, h3, h4, h5, h6, h7⟩ := h
  refine ⟨ca, cl, wc, mx, mn, ⟨(hI 77 (by decide)).trans h1.1, (hI 78 (by decide)).trans h1.2.1, h1.2.2⟩, (hI 75 (by decide)).trans h2, (hI 76 (by decide)).trans h3, (hI 79 (by decide)).trans h4, h5, h6.eq (hR 81 (by decide)), fun k hk => ?_⟩
  rw [hR 80 (by decide)]
  exact h7 k hk
def CUO (f : Nat → Int32) (n : Nat) (co : Int32) (I : rI) (R : rR) : Prop := co = -1 ∨ CUT f n I R
theorem CUO.mono {f : Nat → Int32} {n : Nat} {co : Int32} {I I' : rI} {R R' : rR} (h : CUO f n co I R) (hI : ∀ k, k ∈ [75, 76, 77, 78, 79] → I' k = I k) (hR : ∀ k, k ∈ [80, 81] → R' k = R k) : CUO f n co I' R' := h.imp id (fun h => h.mono hI hR)
theorem CUO.of {f : Nat → Int32} {n : Nat} {co x : Int32} {I : rI} {R : rR} (h : CUO f n co I R) (hx : 0 ≤ x.toInt) (e : co = x) : CUT f n I R := h.resolve_left (fun q => by rw [← e, q] at hx; exact absurd hx (by decide))
theorem INS.lt {f : Nat → Int32} {ca cl p : Int32} (h : INS f ca cl p) : p.toInt + 1 ≤ cl.toInt := by
  obtain ⟨h0, nn, h1, h2, -⟩ := h
  omega
theorem INS.sw {f : Nat → Int32} {ca cl p : Int32} (h : INS f ca cl p) (ho : f1 f (ca + p) = 170 ∨ f1 f (ca + p) = 171) : SWF f ca cl p := by
  obtain ⟨h0, nn, h1, h2, h3, h4, h5⟩ := h
  exact h5 ho
theorem SWF.p8 {f : Nat → Int32} {ca cl p : Int32} (h : SWF f ca cl p) (ho : f1 f (ca + p) = 170 ∨ f1 f (ca + p) = 171) : (pd p).toInt + 8 ≤ cl.toInt := by
  rcases ho with e | e
  · have := (h.1 e).1
    omega
  · exact (h.2 e).1
def GDI : List Nat := [3, 8, 16, 25, 26, 49, 51, 52, 53, 54, 58, 61, 65, 66, 67, 68, 69, 70, 71, 72]
def GDR : List Nat := [1, 4, 5, 12, 21, 22, 27, 28, 29, 30, 31, 32, 33, 34, 35, 36, 37, 38, 39, 40, 41, 42, 43, 44, 45, 46]
theorem GD.mono {n : Nat} {f : Nat → Int32} {I I' : rI} {R R' : rR} (h : GD n f I R) (hI : ∀ k, k ∈ GDI → I' k = I k) (hR : ∀ k, k ∈ GDR → R' k = R k) : GD n f I' R' := by
  obtain ⟨S, cN, sa, sl, ch, cp, mj, pa, py, hA, fA, mA, aA, nf, ni, kf, km, hF0, hY0, hP0, hE0, hFO, k54, k58, k61, hkf, k25, hfk, hkm, k26, hmk, hNk, b, c, k70, k71, hc⟩ := h
  refine ⟨S, cN, sa, sl, ch, cp, mj, pa, py, hA, fA, mA, aA, nf, ni, kf, km, hF0.mono (fun k hk => hI k ?_) (fun k hk => hR k ?_), hY0.mono (fun k hk => hI k ?_) (fun k hk => hR k ?_), hP0.mono (fun k hk => hI k ?_) (fun k hk => hR k ?_), hE0, hFO, (hI 54 (by decide)).trans k54, (hI 58 (by decide)).trans k58, (hI 61 (by decide)).trans k61, hkf, (hI 25 (by decide)).trans k25, fun x hx k hk => ?_, hkm, (hI 26 (by decide)).trans k26, fun x hx => ?_, fun k hk => ?_, b, c, (hI 70 (by decide)).trans k70, (hI 71 (by decide)).trans k71, hc⟩
  · revert k; decide
  · revert k; decide
  · revert k; decide
  · revert k; decide
  · revert k; decide
  · revert k; decide
  · rw [hR k (by revert k; decide)]
    exact hfk x hx k hk
  · obtain ⟨h1, h2, ds, h3, h4⟩ := hmk x hx
    refine ⟨fun k hk => ?_, h2.fr (fun k hk => congrFun (hR k (by revert k; decide)) x), ds, by rw [hR 36 (by decide)]; exact h3, h4⟩
    rw [hR k (by revert k; decide)]
    exact h1 k hk
  · rw [hI k (by revert k; decide)]
    exact hNk k hk
end MIA8
end
