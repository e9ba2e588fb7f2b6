set_option maxHeartbeats 2000000 in
theorem rm_character {g : xe_G}  {m0 : Nat} {q : Nat → Nat} {z : Nat × Nat} {I : rI} {R : rR} {M : mi_H} {x1 x2 kn : Int32} {n : Nat} {f : Nat → Int32}  (hR : RS g m0 q z I R M) (hk18 : I 18 = some kn) (hG : (kn < 0 ∨ GD n f I R)) {d : Nat} (hd : 3 ≤ d) : mt (mT g) d 186 [.ref m0, .int x1, .int x2] M (fun v M' => ∃ (x : Int32) (I' : rI) (R' : rR), v = some (.int x) ∧ RS g m0 q z I' R' M' ∧ eqI [0] I I' ∧ eqR [] R R') := by
  obtain ⟨d, rfl⟩ : ∃ e, d = e + 1 := ⟨d - 1, by omega⟩
  refine mt_in (b := mb_186 g) rfl rfl ?_
  show ml (mT g) d (mb_186 g).2 (0, [(0, .ref m0), (1, .int x1), (2, .int x2)], [], M) _
  refine ml_blk 2 (S' := (2, [(0, .ref m0), (1, .int x1), (2, .int x2)], [.int 0, .ref m0], M)) rfl ?_
  refine rp_int rfl hR rfl (fun M11 I12 hR13 e14 f15 => ?_)
  show ml _ _ _ (5, [(0, .ref m0), (1, .int x1), (2, .int x2)], [], M11) _
  refine ml_st (S' := (6, [(0, .ref m0), (1, .int x1), (2, .int x2)], [.ref m0], M11)) rfl rfl rfl ?_
  refine rg_int (S' := (9, [(0, .ref m0), (1, .int x1), (2, .int x2)], [.int kn], M11)) rfl hR13 rfl ((f15 18 (by decide)).trans (hk18)) rfl ?_
  refine ml_if (S1 := (38, [], [], M11)) (S2 := (12, [(0, .ref m0), (1, .int x1), (2, .int x2)], [], M11)) rfl rfl rfl (fun c_9 => ?_) (fun c_9 => ?_)
  · have c_9 : kn < 0 := of_decide_eq_true c_9
    refine ml_st (S' := (39, [], [.int (-1)], M11)) rfl rfl rfl ?_
    refine ml_st (S' := (52, [], [.int (-1)], M11)) rfl rfl rfl ?_
    exact ml_ret rfl (rfl) (⟨_, _, _, rfl, hR13, (eqI.rf.put f15 (by decide)), eqR.rf⟩)
  · have c_9 : ¬ (kn < 0) := of_decide_eq_false c_9
    obtain ⟨S, cN, sa, sl, ch, cp, mj, pa, py, hA, fA, mA, aA, nf, ni, kf, km, hF0, hY0, hP0, hE0, hFO, kq54, kq58, kq61, hkf, kq25, hfk, hkm, kq26, hmk, hNW⟩ := hG.resolve_left (c_9)
    have hn := hF0.1
    refine ml_blk 2 (S' := (14, [(0, .ref m0), (1, .int x1), (2, .int x2)], [.int x1, .ref m0], M11)) rfl ?_
    have hF16 : FK n f I12 R := (hF0.mono (pIx f15 (by decide)) (fun _ _ => rfl))
    have hP17 : PK n f S cp mj pa py I12 R := (hP0.mono (pIx f15 (by decide)) (fun _ _ => rfl))
    refine ml_call (a := [.ref m0, .int x1]) (rest := []) rfl (hR13.okc rfl rfl rfl) rfl rfl (rm_tag hR13 hF16 hP17 (by omega)) (fun v18 M19 h20 => ?_)
    obtain ⟨rfl, h20⟩ := h20
    rw [h20]
    show ml _ _ _ (17, [(0, .ref m0), (1, .int x1), (2, .int x2)], [.int (tgf f cp pa x1)], M11) _
    refine ml_st (S' := (18, [(0, .ref m0), (1, .int x1), (2, .int x2)], [.int 1, .int (tgf f cp pa x1)], M11)) rfl rfl rfl ?_
    refine ml_if2 (S1 := (38, [], [], M11)) (S2 := (21, [(0, .ref m0), (1, .int x1), (2, .int x2)], [], M11)) rfl rfl rfl (fun c_18 => ?_) (fun c_18 => ?_)
    · have c_18 : ¬ (tgf f cp pa x1) = 1 := of_decide_eq_true c_18
      refine ml_st (S' := (39, [], [.int (-1)], M11)) rfl rfl rfl ?_
      refine ml_st (S' := (52, [], [.int (-1)], M11)) rfl rfl rfl ?_
      exact ml_ret rfl (rfl) (⟨_, _, _, rfl, hR13, (eqI.rf.put f15 (by decide)), eqR.rf⟩)
    · have c_18 : ¬ (¬ (tgf f cp pa x1) = 1) := of_decide_eq_false c_18
      refine ml_st (S' := (22, [(0, .ref m0), (1, .int x1), (2, .int x2)], [.int x2], M11)) rfl rfl rfl ?_
      refine ml_if (S1 := (38, [], [], M11)) (S2 := (25, [(0, .ref m0), (1, .int x1), (2, .int x2)], [], M11)) rfl rfl rfl (fun c_22 => ?_) (fun c_22 => ?_)
      · have c_22 : x2 < 0 := of_decide_eq_true c_22
        refine ml_st (S' := (39, [], [.int (-1)], M11)) rfl rfl rfl ?_
        refine ml_st (S' := (52, [], [.int (-1)], M11)) rfl rfl rfl ?_
        exact ml_ret rfl (rfl) (⟨_, _, _, rfl, hR13, (eqI.rf.put f15 (by decide)), eqR.rf⟩)
      · have c_22 : ¬ (x2 < 0) := of_decide_eq_false c_22
        refine ml_blk 3 (S' := (28, [(0, .ref m0), (1, .int x1), (2, .int x2)], [.ref m0, .ref m0, .int x2], M11)) rfl ?_
        refine ml_st (S' := (29, [(0, .ref m0), (1, .int x1), (2, .int x2)], [.int x1, .ref m0, .ref m0, .int x2], M11)) rfl rfl rfl ?_
        refine ml_call (a := [.ref m0, .int x1]) (rest := [.ref m0, .int x2]) rfl (hR13.okc rfl rfl rfl) rfl rfl (rm_symOf hR13 hP17 (Decidable.not_not.mp c_18) (by omega)) (fun v21 M22 h23 => ?_)
        obtain ⟨rfl, h23⟩ := h23
        rw [h23]
        show ml _ _ _ (32, [(0, .ref m0), (1, .int x1), (2, .int x2)], [.int (pyf py x1), .ref m0, .int x2], M11) _
        have hY24 : SK S cN sa sl ch I12 R := (hY0.mono (pIx f15 (by decide)) (fun _ _ => rfl))
        refine ml_call (a := [.ref m0, .int (pyf py x1)]) (rest := [.int x2]) rfl (hR13.okc rfl rfl rfl) rfl rfl (rm_length hR13 hY24 ((hP0.y (Decidable.not_not.mp c_18)).2.2.1) ((hP0.y (Decidable.not_not.mp c_18)).2.2.2) (by omega)) (fun v25 M26 h27 => ?_)
        obtain ⟨rfl, h27⟩ := h27
        rw [h27]
        show ml _ _ _ (35, [(0, .ref m0), (1, .int x1), (2, .int x2)], [.int (sL sl (pyf py x1)), .int x2], M11) _
        refine ml_if2 (S1 := (42, [(0, .ref m0), (1, .int x1), (2, .int x2)], [], M11)) (S2 := (38, [], [], M11)) rfl rfl rfl (fun c_35 => ?_) (fun c_35 => ?_)
        · have c_35 : x2 < (sL sl (pyf py x1)) := of_decide_eq_true c_35
          refine ml_blk 3 (S' := (45, [(0, .ref m0), (1, .int x1), (2, .int x2)], [.int x1, .ref m0, .ref m0], M11)) rfl ?_
          refine ml_call (a := [.ref m0, .int x1]) (rest := [.ref m0]) rfl (hR13.okc rfl rfl rfl) rfl rfl (rm_symOf hR13 hP17 (Decidable.not_not.mp c_18) (by omega)) (fun v28 M29 h30 => ?_)
          obtain ⟨rfl, h30⟩ := h30
          rw [h30]
          show ml _ _ _ (48, [(0, .ref m0), (1, .int x1), (2, .int x2)], [.int (pyf py x1), .ref m0], M11) _
          refine ml_st (S' := (49, [(0, .ref m0), (1, .int x1), (2, .int x2)], [.int x2, .int (pyf py x1), .ref m0], M11)) rfl rfl rfl ?_
          refine ml_call (a := [.ref m0, .int (pyf py x1), .int x2]) (rest := []) rfl (hR13.okc rfl rfl rfl) rfl rfl (rm_at hR13 hY24 ((hP0.y (Decidable.not_not.mp c_18)).2.2.1) ((hP0.y (Decidable.not_not.mp c_18)).2.2.2) (i_nlt c_22) (i_lt c_35) (by omega)) (fun v31 M32 h33 => ?_)
          obtain ⟨rfl, h33⟩ := h33
          rw [h33]
          show ml _ _ _ (52, [], [.int (tx sa ch (pyf py x1) x2)], M11) _
          exact ml_ret rfl (rfl) (⟨_, _, _, rfl, hR13, (eqI.rf.put f15 (by decide)), eqR.rf⟩)
        · have c_35 : ¬ (x2 < (sL sl (pyf py x1))) := of_decide_eq_false c_35
          refine ml_st (S' := (39, [], [.int (-1)], M11)) rfl rfl rfl ?_
          refine ml_st (S' := (52, [], [.int (-1)], M11)) rfl rfl rfl ?_
          exact ml_ret rfl (rfl) (⟨_, _, _, rfl, hR13, (eqI.rf.put f15 (by decide)), eqR.rf⟩)
set_option maxHeartbeats 2000000 in
theorem rm_member {g : xe_G}  {m0 : Nat} {q : Nat → Nat} {z : Nat × Nat} {I : rI} {R : rR} {M : mi_H} {x1 x2 x3 kn : Int32} {n : Nat} {f : Nat → Int32}  (hR : RS g m0 q z I R M) (hk18 : I 18 = some kn) (hG : (kn < 0 ∨ GD n f I R)) {d : Nat} (hd : 5 ≤ d) : mt (mT g) d 223 [.ref m0, .int x1, .int x2, .int x3] M (fun v M' => ∃ (x : Int32) (I' : rI) (R' : rR), v = some (.int x) ∧ RS g m0 q z I' R' M' ∧ eqI [0] I I' ∧ eqR [] R R') := by
  obtain ⟨d, rfl⟩ : ∃ e, d = e + 1 := ⟨d - 1, by omega⟩
  refine mt_in (b := mb_223 g) rfl rfl ?_
  show ml (mT g) d (mb_223 g).2 (0, [(0, .ref m0), (1, .int x1), (2, .int x2), (3, .int x3)], [], M) _
  refine ml_blk 2 (S' := (2, [(0, .ref m0), (1, .int x1), (2, .int x2), (3, .int x3)], [.int 0, .ref m0], M)) rfl ?_
  refine rp_int rfl hR rfl (fun M11 I12 hR13 e14 f15 => ?_)
  show ml _ _ _ (5, [(0, .ref m0), (1, .int x1), (2, .int x2), (3, .int x3)], [], M11) _
  refine ml_st (S' := (6, [(0, .ref m0), (1, .int x1), (2, .int x2), (3, .int x3)], [.int x3], M11)) rfl rfl rfl ?_
  refine ml_if (S1 := (15, [(0, .ref m0)], [], M11)) (S2 := (9, [(0, .ref m0), (1, .int x1), (2, .int x2), (3, .int x3)], [], M11)) rfl rfl rfl (fun c_6 => ?_) (fun c_6 => ?_)
  · have c_6 : x3 < 0 := of_decide_eq_true c_6
    refine ml_st (S' := (16, [(0, .ref m0)], [.ref m0], M11)) rfl rfl rfl ?_
    refine ml_call (a := [.ref m0]) (rest := []) rfl (hR13.okc rfl rfl rfl) rfl rfl (rm_bad hR13 (by omega)) (fun v16 M17 h18 => ?_)
    obtain ⟨u24, I19, R20, rfl, hR21, hI22, hV23, w25⟩ := h18
    show ml _ _ _ (19, [(0, .ref m0)], [.int u24], M17) _
    exact ml_ret rfl (rfl) (⟨_, _, _, rfl, hR21, ((eqI.rf.put f15 (by decide)).tr hI22 (by decide)), (eqR.rf.tr hV23 (by decide))⟩)
  · have c_6 : ¬ (x3 < 0) := of_decide_eq_false c_6
    refine ml_blk 2 (S' := (12, [(0, .ref m0), (1, .int x1), (2, .int x2), (3, .int x3)], [.int 9, .int x3], M11)) rfl ?_
    refine ml_if2 (S1 := (20, [(0, .ref m0), (1, .int x1), (2, .int x2), (3, .int x3)], [], M11)) (S2 := (15, [(0, .ref m0)], [], M11)) rfl rfl rfl (fun c_12 => ?_) (fun c_12 => ?_)
    · have c_12 : x3 ≤ 9 := of_decide_eq_true c_12
      refine ml_st (S' := (21, [(0, .ref m0), (1, .int x1), (2, .int x2), (3, .int x3)], [.ref m0], M11)) rfl rfl rfl ?_
      refine rg_int (S' := (24, [(0, .ref m0), (1, .int x1), (2, .int x2), (3, .int x3)], [.int kn], M11)) rfl hR13 rfl ((f15 18 (by decide)).trans (hk18)) rfl ?_
      refine ml_if (S1 := (50, [], [], M11)) (S2 := (27, [(0, .ref m0), (1, .int x1), (2, .int x2), (3, .int x3)], [], M11)) rfl rfl rfl (fun c_24 => ?_) (fun c_24 => ?_)
      · have c_24 : kn < 0 := of_decide_eq_true c_24
        refine ml_st (S' := (51, [], [.int (-1)], M11)) rfl rfl rfl ?_
        exact ml_ret rfl (rfl) (⟨_, _, _, rfl, hR13, (eqI.rf.put f15 (by decide)), eqR.rf⟩)
      · have c_24 : ¬ (kn < 0) := of_decide_eq_false c_24
        obtain ⟨S, cN, sa, sl, ch, cp, mj, pa, py, hA, fA, mA, aA, nf, ni, kf, km, hF0, hY0, hP0, hE0, hFO, kq54, kq58, kq61, hkf, kq25, hfk, hkm, kq26, hmk, hNW⟩ := hG.resolve_left (c_24)
        have hn := hF0.1
        refine ml_st (S' := (28, [(0, .ref m0), (1, .int x1), (2, .int x2), (3, .int x3)], [.int x2], M11)) rfl rfl rfl ?_
        refine ml_if (S1 := (50, [], [], M11)) (S2 := (31, [(0, .ref m0), (1, .int x1), (2, .int x2), (3, .int x3)], [], M11)) rfl rfl rfl (fun c_28 => ?_) (fun c_28 => ?_)
        · have c_28 : x2 < 0 := of_decide_eq_true c_28
          refine ml_st (S' := (51, [], [.int (-1)], M11)) rfl rfl rfl ?_
          exact ml_ret rfl (rfl) (⟨_, _, _, rfl, hR13, (eqI.rf.put f15 (by decide)), eqR.rf⟩)
        · have c_28 : ¬ (x2 < 0) := of_decide_eq_false c_28
          refine ml_blk 2 (S' := (33, [(0, .ref m0), (1, .int x1), (2, .int x2), (3, .int x3)], [.int x1, .int x2], M11)) rfl ?_
          have J_47 : ∀ (s47_0 : Int32), ((x1 = 0 → s47_0 = nI kf) ∧ (¬ x1 = 0 → s47_0 = nI km)) → ml (mT g) d (mb_223 g).2 (47, [(0, .ref m0), (1, .int x1), (2, .int x2), (3, .int x3)], [.int s47_0, .int x2], M11) (fun v M' => ∃ (x : Int32) (I' : rI) (R' : rR), v = some (.int x) ∧ RS g m0 q z I' R' M' ∧ eqI [0] I I' ∧ eqR [] R R') := by
            intro s47_0 hj_47
            refine ml_if2 (S1 := (52, [(0, .ref m0), (1, .int x1), (2, .int x2), (3, .int x3)], [], M11)) (S2 := (50, [], [], M11)) rfl rfl rfl (fun c_47 => ?_) (fun c_47 => ?_)
            · have c_47 : x2 < s47_0 := of_decide_eq_true c_47
              have hj_52 : (0 ≤ x2.toInt ∧ (x1 = 0 → x2.toInt < kf) ∧ (¬ x1 = 0 → x2.toInt < km)) := ⟨i_nlt c_28, fun e => i_ltn (hj_47.1 e ▸ c_47) hkf, fun e => i_ltn (hj_47.2 e ▸ c_47) hkm⟩
              refine ml_st (S' := (53, [(0, .ref m0), (1, .int x1), (2, .int x2), (3, .int x3)], [.int x3], M11)) rfl rfl rfl ?_
              refine ml_sw rfl (fun t_53 ht_53 => ?_)
              have kt_53 := ht_53
              have ht_53 : t_53 ∈ [88, 108, 128, 148, 168, 188] := mi_sw_sub ht_53 (by decide)
              simp only [List.mem_cons, List.not_mem_nil, or_false] at ht_53
              rcases ht_53 with rfl | rfl | rfl | rfl | rfl | rfl
              · show ml _ _ _ (88, [(0, .ref m0), (1, .int x1), (2, .int x2), (3, .int x3)], [], M11) _
                refine ml_st (S' := (89, [(0, .ref m0), (1, .int x1), (2, .int x2), (3, .int x3)], [.int x1], M11)) rfl rfl rfl ?_
                refine ml_if (S1 := (101, [(0, .ref m0), (1, .int x1), (2, .int x2), (3, .int x3)], [], M11)) (S2 := (92, [(0, .ref m0), (1, .int x1), (2, .int x2), (3, .int x3)], [], M11)) rfl rfl rfl (fun c_89 => ?_) (fun c_89 => ?_)
                · have c_89 : x1 = 0 := of_decide_eq_true c_89
                  refine ml_st (S' := (102, [(0, .ref m0), (1, .int x1), (2, .int x2), (3, .int x3)], [.ref m0], M11)) rfl rfl rfl ?_
                  refine rg_ref (S' := (105, [(0, .ref m0), (1, .int x1), (2, .int x2), (3, .int x3)], [.ref (q 27)], M11)) rfl hR13 rfl rfl ?_
                  refine ml_st (S' := (106, [(0, .ref m0), (1, .int x1), (2, .int x2), (3, .int x3)], [.int x2, .ref (q 27)], M11)) rfl rfl rfl ?_
                  have hx106 := hj_52.2.1 c_89
                  obtain ⟨v26, hv27⟩ := hfk x2.toNatClampNeg (by show x2.toInt.toNat < kf; omega) 27 (by decide)
                  refine ra_ld (k := 27) (S' := (107, [], [.int v26], M11)) rfl hR13 rfl (vin_lt hj_52.1 (by omega)) (hv27) rfl ?_
                  exact ml_ret rfl (rfl) (⟨_, _, _, rfl, hR13, (eqI.rf.put f15 (by decide)), eqR.rf⟩)
                · have c_89 : ¬ (x1 = 0) := of_decide_eq_false c_89
                  refine ml_st (S' := (93, [(0, .ref m0), (1, .int x1), (2, .int x2), (3, .int x3)], [.ref m0], M11)) rfl rfl rfl ?_
                  refine rg_ref (S' := (96, [(0, .ref m0), (1, .int x1), (2, .int x2), (3, .int x3)], [.ref (q 34)], M11)) rfl hR13 rfl rfl ?_
                  refine ml_st (S' := (97, [(0, .ref m0), (1, .int x1), (2, .int x2), (3, .int x3)], [.int x2, .ref (q 34)], M11)) rfl rfl rfl ?_
                  have hx97 := hj_52.2.2 c_89
                  obtain ⟨v28, hv29⟩ := (hmk x2.toNatClampNeg (by show x2.toInt.toNat < km; omega)).1 34 (by decide)
                  refine ra_ld (k := 34) (S' := (98, [(0, .ref m0), (1, .int x1), (2, .int x2), (3, .int x3)], [.int v28], M11)) rfl hR13 rfl (vin_lt hj_52.1 (by omega)) (hv29) rfl ?_
                  refine ml_st (S' := (107, [], [.int v28], M11)) rfl rfl rfl ?_
                  exact ml_ret rfl (rfl) (⟨_, _, _, rfl, hR13, (eqI.rf.put f15 (by decide)), eqR.rf⟩)
              · show ml _ _ _ (108, [(0, .ref m0), (1, .int x1), (2, .int x2), (3, .int x3)], [], M11) _
                refine ml_st (S' := (109, [(0, .ref m0), (1, .int x1), (2, .int x2), (3, .int x3)], [.int x1], M11)) rfl rfl rfl ?_
                refine ml_if (S1 := (121, [(0, .ref m0), (1, .int x1), (2, .int x2), (3, .int x3)], [], M11)) (S2 := (112, [(0, .ref m0), (1, .int x1), (2, .int x2), (3, .int x3)], [], M11)) rfl rfl rfl (fun c_109 => ?_) (fun c_109 => ?_)
                · have c_109 : x1 = 0 := of_decide_eq_true c_109
                  refine ml_st (S' := (122, [(0, .ref m0), (1, .int x1), (2, .int x2), (3, .int x3)], [.ref m0], M11)) rfl rfl rfl ?_
                  refine rg_ref (S' := (125, [(0, .ref m0), (1, .int x1), (2, .int x2), (3, .int x3)], [.ref (q 32)], M11)) rfl hR13 rfl rfl ?_
                  refine ml_st (S' := (126, [(0, .ref m0), (1, .int x1), (2, .int x2), (3, .int x3)], [.int x2, .ref (q 32)], M11)) rfl rfl rfl ?_
                  have hx126 := hj_52.2.1 c_109
                  obtain ⟨v30, hv31⟩ := hfk x2.toNatClampNeg (by show x2.toInt.toNat < kf; omega) 32 (by decide)
                  refine ra_ld (k := 32) (S' := (127, [], [.int v30], M11)) rfl hR13 rfl (vin_lt hj_52.1 (by omega)) (hv31) rfl ?_
                  exact ml_ret rfl (rfl) (⟨_, _, _, rfl, hR13, (eqI.rf.put f15 (by decide)), eqR.rf⟩)
                · have c_109 : ¬ (x1 = 0) := of_decide_eq_false c_109
                  refine ml_st (S' := (113, [(0, .ref m0), (1, .int x1), (2, .int x2), (3, .int x3)], [.ref m0], M11)) rfl rfl rfl ?_
                  refine rg_ref (S' := (116, [(0, .ref m0), (1, .int x1), (2, .int x2), (3, .int x3)], [.ref (q 45)], M11)) rfl hR13 rfl rfl ?_
                  refine ml_st (S' := (117, [(0, .ref m0), (1, .int x1), (2, .int x2), (3, .int x3)], [.int x2, .ref (q 45)], M11)) rfl rfl rfl ?_
                  have hx117 := hj_52.2.2 c_109
                  obtain ⟨v32, hv33⟩ := (hmk x2.toNatClampNeg (by show x2.toInt.toNat < km; omega)).1 45 (by decide)
                  refine ra_ld (k := 45) (S' := (118, [(0, .ref m0), (1, .int x1), (2, .int x2), (3, .int x3)], [.int v32], M11)) rfl hR13 rfl (vin_lt hj_52.1 (by omega)) (hv33) rfl ?_
                  refine ml_st (S' := (127, [], [.int v32], M11)) rfl rfl rfl ?_
                  exact ml_ret rfl (rfl) (⟨_, _, _, rfl, hR13, (eqI.rf.put f15 (by decide)), eqR.rf⟩)
              · show ml _ _ _ (128, [(0, .ref m0), (1, .int x1), (2, .int x2), (3, .int x3)], [], M11) _
                refine ml_st (S' := (129, [(0, .ref m0), (1, .int x1), (2, .int x2), (3, .int x3)], [.int x1], M11)) rfl rfl rfl ?_
                refine ml_if (S1 := (141, [(0, .ref m0), (1, .int x1), (2, .int x2), (3, .int x3)], [], M11)) (S2 := (132, [(0, .ref m0), (1, .int x1), (2, .int x2), (3, .int x3)], [], M11)) rfl rfl rfl (fun c_129 => ?_) (fun c_129 => ?_)
                · have c_129 : x1 = 0 := of_decide_eq_true c_129
                  refine ml_st (S' := (142, [(0, .ref m0), (1, .int x1), (2, .int x2), (3, .int x3)], [.ref m0], M11)) rfl rfl rfl ?_
                  refine rg_ref (S' := (145, [(0, .ref m0), (1, .int x1), (2, .int x2), (3, .int x3)], [.ref (q 33)], M11)) rfl hR13 rfl rfl ?_
                  refine ml_st (S' := (146, [(0, .ref m0), (1, .int x1), (2, .int x2), (3, .int x3)], [.int x2, .ref (q 33)], M11)) rfl rfl rfl ?_
                  have hx146 := hj_52.2.1 c_129
                  obtain ⟨v34, hv35⟩ := hfk x2.toNatClampNeg (by show x2.toInt.toNat < kf; omega) 33 (by decide)
                  refine ra_ld (k := 33) (S' := (147, [], [.int v34], M11)) rfl hR13 rfl (vin_lt hj_52.1 (by omega)) (hv35) rfl ?_
                  exact ml_ret rfl (rfl) (⟨_, _, _, rfl, hR13, (eqI.rf.put f15 (by decide)), eqR.rf⟩)
                · have c_129 : ¬ (x1 = 0) := of_decide_eq_false c_129
                  refine ml_st (S' := (133, [(0, .ref m0), (1, .int x1), (2, .int x2), (3, .int x3)], [.ref m0], M11)) rfl rfl rfl ?_
                  refine rg_ref (S' := (136, [(0, .ref m0), (1, .int x1), (2, .int x2), (3, .int x3)], [.ref (q 46)], M11)) rfl hR13 rfl rfl ?_
                  refine ml_st (S' := (137, [(0, .ref m0), (1, .int x1), (2, .int x2), (3, .int x3)], [.int x2, .ref (q 46)], M11)) rfl rfl rfl ?_
                  have hx137 := hj_52.2.2 c_129
                  obtain ⟨v36, hv37⟩ := (hmk x2.toNatClampNeg (by show x2.toInt.toNat < km; omega)).1 46 (by decide)
                  refine ra_ld (k := 46) (S' := (138, [(0, .ref m0), (1, .int x1), (2, .int x2), (3, .int x3)], [.int v36], M11)) rfl hR13 rfl (vin_lt hj_52.1 (by omega)) (hv37) rfl ?_
                  refine ml_st (S' := (147, [], [.int v36], M11)) rfl rfl rfl ?_
                  exact ml_ret rfl (rfl) (⟨_, _, _, rfl, hR13, (eqI.rf.put f15 (by decide)), eqR.rf⟩)
              · show ml _ _ _ (148, [(0, .ref m0), (1, .int x1), (2, .int x2), (3, .int x3)], [], M11) _
                refine ml_st (S' := (149, [(0, .ref m0), (1, .int x1), (2, .int x2), (3, .int x3)], [.int x1], M11)) rfl rfl rfl ?_
                refine ml_if (S1 := (161, [(0, .ref m0), (1, .int x1), (2, .int x2), (3, .int x3)], [], M11)) (S2 := (152, [(0, .ref m0), (1, .int x1), (2, .int x2), (3, .int x3)], [], M11)) rfl rfl rfl (fun c_149 => ?_) (fun c_149 => ?_)
                · have c_149 : x1 = 0 := of_decide_eq_true c_149
                  refine ml_st (S' := (162, [(0, .ref m0), (1, .int x1), (2, .int x2), (3, .int x3)], [.ref m0], M11)) rfl rfl rfl ?_
                  refine rg_ref (S' := (165, [(0, .ref m0), (1, .int x1), (2, .int x2), (3, .int x3)], [.ref (q 31)], M11)) rfl hR13 rfl rfl ?_
                  refine ml_st (S' := (166, [(0, .ref m0), (1, .int x1), (2, .int x2), (3, .int x3)], [.int x2, .ref (q 31)], M11)) rfl rfl rfl ?_
                  have hx166 := hj_52.2.1 c_149
                  obtain ⟨v38, hv39⟩ := hfk x2.toNatClampNeg (by show x2.toInt.toNat < kf; omega) 31 (by decide)
                  refine ra_ld (k := 31) (S' := (167, [], [.int v38], M11)) rfl hR13 rfl (vin_lt hj_52.1 (by omega)) (hv39) rfl ?_
                  exact ml_ret rfl (rfl) (⟨_, _, _, rfl, hR13, (eqI.rf.put f15 (by decide)), eqR.rf⟩)
                · have c_149 : ¬ (x1 = 0) := of_decide_eq_false c_149
                  refine ml_st (S' := (153, [(0, .ref m0), (1, .int x1), (2, .int x2), (3, .int x3)], [.ref m0], M11)) rfl rfl rfl ?_
                  refine rg_ref (S' := (156, [(0, .ref m0), (1, .int x1), (2, .int x2), (3, .int x3)], [.ref (q 43)], M11)) rfl hR13 rfl rfl ?_
                  refine ml_st (S' := (157, [(0, .ref m0), (1, .int x1), (2, .int x2), (3, .int x3)], [.int x2, .ref (q 43)], M11)) rfl rfl rfl ?_
                  have hx157 := hj_52.2.2 c_149
                  obtain ⟨v40, hv41⟩ := (hmk x2.toNatClampNeg (by show x2.toInt.toNat < km; omega)).1 43 (by decide)
                  refine ra_ld (k := 43) (S' := (158, [(0, .ref m0), (1, .int x1), (2, .int x2), (3, .int x3)], [.int v40], M11)) rfl hR13 rfl (vin_lt hj_52.1 (by omega)) (hv41) rfl ?_
                  refine ml_st (S' := (167, [], [.int v40], M11)) rfl rfl rfl ?_
                  exact ml_ret rfl (rfl) (⟨_, _, _, rfl, hR13, (eqI.rf.put f15 (by decide)), eqR.rf⟩)
              · show ml _ _ _ (168, [(0, .ref m0), (1, .int x1), (2, .int x2), (3, .int x3)], [], M11) _
                refine ml_st (S' := (169, [(0, .ref m0), (1, .int x1), (2, .int x2), (3, .int x3)], [.int x1], M11)) rfl rfl rfl ?_
                refine ml_if (S1 := (181, [(0, .ref m0), (1, .int x1), (2, .int x2), (3, .int x3)], [], M11)) (S2 := (172, [(0, .ref m0), (1, .int x1), (2, .int x2), (3, .int x3)], [], M11)) rfl rfl rfl (fun c_169 => ?_) (fun c_169 => ?_)
                · have c_169 : x1 = 0 := of_decide_eq_true c_169
                  refine ml_st (S' := (182, [(0, .ref m0), (1, .int x1), (2, .int x2), (3, .int x3)], [.ref m0], M11)) rfl rfl rfl ?_
                  refine rg_ref (S' := (185, [(0, .ref m0), (1, .int x1), (2, .int x2), (3, .int x3)], [.ref (q 30)], M11)) rfl hR13 rfl rfl ?_
                  refine ml_st (S' := (186, [(0, .ref m0), (1, .int x1), (2, .int x2), (3, .int x3)], [.int x2, .ref (q 30)], M11)) rfl rfl rfl ?_
                  have hx186 := hj_52.2.1 c_169
                  obtain ⟨v42, hv43⟩ := hfk x2.toNatClampNeg (by show x2.toInt.toNat < kf; omega) 30 (by decide)
                  refine ra_ld (k := 30) (S' := (187, [], [.int v42], M11)) rfl hR13 rfl (vin_lt hj_52.1 (by omega)) (hv43) rfl ?_
                  exact ml_ret rfl (rfl) (⟨_, _, _, rfl, hR13, (eqI.rf.put f15 (by decide)), eqR.rf⟩)
                · have c_169 : ¬ (x1 = 0) := of_decide_eq_false c_169
                  refine ml_st (S' := (173, [(0, .ref m0), (1, .int x1), (2, .int x2), (3, .int x3)], [.ref m0], M11)) rfl rfl rfl ?_
                  refine rg_ref (S' := (176, [(0, .ref m0), (1, .int x1), (2, .int x2), (3, .int x3)], [.ref (q 38)], M11)) rfl hR13 rfl rfl ?_
                  refine ml_st (S' := (177, [(0, .ref m0), (1, .int x1), (2, .int x2), (3, .int x3)], [.int x2, .ref (q 38)], M11)) rfl rfl rfl ?_
                  have hx177 := hj_52.2.2 c_169
                  obtain ⟨v44, hv45⟩ := (hmk x2.toNatClampNeg (by show x2.toInt.toNat < km; omega)).1 38 (by decide)
                  refine ra_ld (k := 38) (S' := (178, [(0, .ref m0), (1, .int x1), (2, .int x2), (3, .int x3)], [.int v44], M11)) rfl hR13 rfl (vin_lt hj_52.1 (by omega)) (hv45) rfl ?_
                  refine ml_st (S' := (187, [], [.int v44], M11)) rfl rfl rfl ?_
                  exact ml_ret rfl (rfl) (⟨_, _, _, rfl, hR13, (eqI.rf.put f15 (by decide)), eqR.rf⟩)
              · show ml _ _ _ (188, [(0, .ref m0), (1, .int x1), (2, .int x2), (3, .int x3)], [], M11) _
                refine ml_st (S' := (189, [(0, .ref m0), (1, .int x1), (2, .int x2), (3, .int x3)], [.int x1], M11)) rfl rfl rfl ?_
                refine ml_if (S1 := (194, [(0, .ref m0), (1, .int x1), (2, .int x2), (3, .int x3)], [], M11)) (S2 := (192, [(0, .ref m0), (1, .int x1), (2, .int x2), (3, .int x3)], [], M11)) rfl rfl rfl (fun c_189 => ?_) (fun c_189 => ?_)
                · have c_189 : ¬ x1 = 0 := of_decide_eq_true c_189
                  refine ml_blk 2 (S' := (196, [(0, .ref m0), (1, .int x1), (2, .int x2), (3, .int x3)], [.int 5, .int x3], M11)) rfl ?_
                  refine ml_if2 (S1 := (208, [(0, .ref m0), (1, .int x1), (2, .int x2), (3, .int x3)], [], M11)) (S2 := (199, [(0, .ref m0), (1, .int x1), (2, .int x2), (3, .int x3)], [], M11)) rfl rfl rfl (fun c_196 => ?_) (fun c_196 => ?_)
                  · have c_196 : ¬ x3 = 5 := of_decide_eq_true c_196
                    refine ml_blk 2 (S' := (211, [(0, .ref m0), (1, .int x1), (2, .int x2), (3, .int x3)], [.int 6, .int x3], M11)) rfl ?_
                    refine ml_if2 (S1 := (223, [(0, .ref m0), (1, .int x1), (2, .int x2), (3, .int x3)], [], M11)) (S2 := (214, [(0, .ref m0), (1, .int x1), (2, .int x2), (3, .int x3)], [], M11)) rfl rfl rfl (fun c_211 => ?_) (fun c_211 => ?_)
                    · have c_211 : ¬ x3 = 6 := of_decide_eq_true c_211
                      refine ml_blk 2 (S' := (226, [(0, .ref m0), (1, .int x1), (2, .int x2), (3, .int x3)], [.int 7, .int x3], M11)) rfl ?_
                      refine ml_if2 (S1 := (238, [(0, .ref m0), (1, .int x1), (2, .int x2), (3, .int x3)], [], M11)) (S2 := (229, [(0, .ref m0), (1, .int x1), (2, .int x2), (3, .int x3)], [], M11)) rfl rfl rfl (fun c_226 => ?_) (fun c_226 => ?_)
                      · have c_226 : ¬ x3 = 7 := of_decide_eq_true c_226
                        refine ml_blk 2 (S' := (241, [(0, .ref m0), (1, .int x1), (2, .int x2), (3, .int x3)], [.int 8, .int x3], M11)) rfl ?_
                        refine ml_if2 (S1 := (275, [(0, .ref m0), (1, .int x1), (2, .int x2), (3, .int x3)], [], M11)) (S2 := (244, [(0, .ref m0), (1, .int x1), (2, .int x2), (3, .int x3)], [], M11)) rfl rfl rfl (fun c_241 => ?_) (fun c_241 => ?_)
                        · have c_241 : ¬ x3 = 8 := of_decide_eq_true c_241
                          refine ml_st (S' := (276, [(0, .ref m0), (1, .int x1), (2, .int x2), (3, .int x3)], [.ref m0], M11)) rfl rfl rfl ?_
                          refine rg_ref (S' := (279, [(0, .ref m0), (1, .int x1), (2, .int x2), (3, .int x3)], [.ref (q 44)], M11)) rfl hR13 rfl rfl ?_
                          refine ml_st (S' := (280, [(0, .ref m0), (1, .int x1), (2, .int x2), (3, .int x3)], [.int x2, .ref (q 44)], M11)) rfl rfl rfl ?_
                          have hx280 := hj_52.2.2 c_189
                          obtain ⟨v46, hv47⟩ := (hmk x2.toNatClampNeg (by show x2.toInt.toNat < km; omega)).1 44 (by decide)
                          refine ra_ld (k := 44) (S' := (281, [], [.int v46], M11)) rfl hR13 rfl (vin_lt hj_52.1 (by omega)) (hv47) rfl ?_
                          exact ml_ret rfl (rfl) (⟨_, _, _, rfl, hR13, (eqI.rf.put f15 (by decide)), eqR.rf⟩)
                        · have c_241 : ¬ (¬ x3 = 8) := of_decide_eq_false c_241
                          refine ml_blk 2 (S' := (246, [(0, .ref m0), (1, .int x1), (2, .int x2), (3, .int x3)], [.ref m0, .ref m0], M11)) rfl ?_
                          refine rg_ref (S' := (249, [(0, .ref m0), (1, .int x1), (2, .int x2), (3, .int x3)], [.ref (q 36), .ref m0], M11)) rfl hR13 rfl rfl ?_
                          refine ml_st (S' := (250, [(0, .ref m0), (1, .int x1), (2, .int x2), (3, .int x3)], [.int x2, .ref (q 36), .ref m0], M11)) rfl rfl rfl ?_
                          have hx250 := hj_52.2.2 c_189
                          obtain ⟨v48, hv49, hd0, hd1, hmt⟩ := (hmk x2.toNatClampNeg (by show x2.toInt.toNat < km; omega)).2.2
                          refine ra_ld (k := 36) (S' := (251, [(0, .ref m0), (1, .int x1), (2, .int x2), (3, .int x3)], [.int v48, .ref m0], M11)) rfl hR13 rfl (vin_lt hj_52.1 (by omega)) (hv49) rfl ?_
                          have hY50 : SK S cN sa sl ch I12 R := (hY0.mono (pIx f15 (by decide)) (fun _ _ => rfl))
                          refine ml_call (a := [.ref m0, .int v48]) (rest := []) rfl (hR13.okc rfl rfl rfl) rfl rfl (rm_places0 hR13 hY50 (hd0) (hd1) (hmt.1) (by omega)) (fun v51 M52 h53 => ?_)
                          obtain ⟨⟨u54, rfl⟩, h53⟩ := h53
                          rw [h53]
                          show ml _ _ _ (254, [(0, .ref m0), (1, .int x1), (2, .int x2), (3, .int x3)], [.int u54], M11) _
                          refine ml_st (S' := (255, [(0, .ref m0), (1, .int x1), (2, .int x2), (3, .int x3)], [.ref m0, .int u54], M11)) rfl rfl rfl ?_
                          refine rg_ref (S' := (258, [(0, .ref m0), (1, .int x1), (2, .int x2), (3, .int x3)], [.ref (q 34), .int u54], M11)) rfl hR13 rfl rfl ?_
                          refine ml_st (S' := (259, [(0, .ref m0), (1, .int x1), (2, .int x2), (3, .int x3)], [.int x2, .ref (q 34), .int u54], M11)) rfl rfl rfl ?_
                          have hx259 := hj_52.2.2 c_189
                          obtain ⟨v55, hv56⟩ := (hmk x2.toNatClampNeg (by show x2.toInt.toNat < km; omega)).1 34 (by decide)
                          refine ra_ld (k := 34) (S' := (260, [(0, .ref m0), (1, .int x1), (2, .int x2), (3, .int x3)], [.int v55, .int u54], M11)) rfl hR13 rfl (vin_lt hj_52.1 (by omega)) (hv56) rfl ?_
                          refine ml_blk 2 (S' := (263, [(0, .ref m0), (1, .int x1), (2, .int x2), (3, .int x3)], [.int (v55 &&& 8), .int u54], M11)) rfl ?_
                          refine ml_if (S1 := (270, [(0, .ref m0), (1, .int x1), (2, .int x2), (3, .int x3)], [.int u54], M11)) (S2 := (266, [(0, .ref m0), (1, .int x1), (2, .int x2), (3, .int x3)], [.int u54], M11)) rfl rfl rfl (fun c_263 => ?_) (fun c_263 => ?_)
                          · have c_263 : ¬ (v55 &&& 8) = 0 := of_decide_eq_true c_263
                            refine ml_st (S' := (271, [], [.int 0, .int u54], M11)) rfl rfl rfl ?_
                            refine ml_st (S' := (272, [], [.int (u54 + 0)], M11)) rfl rfl rfl ?_
                            refine ml_st (S' := (281, [], [.int (u54 + 0)], M11)) rfl rfl rfl ?_
                            exact ml_ret rfl (rfl) (⟨_, _, _, rfl, hR13, (eqI.rf.put f15 (by decide)), eqR.rf⟩)
                          · have c_263 : ¬ (¬ (v55 &&& 8) = 0) := of_decide_eq_false c_263
                            refine ml_st (S' := (267, [(0, .ref m0), (1, .int x1), (2, .int x2), (3, .int x3)], [.int 1, .int u54], M11)) rfl rfl rfl ?_
                            refine ml_st (S' := (271, [], [.int 1, .int u54], M11)) rfl rfl rfl ?_
                            refine ml_st (S' := (272, [], [.int (u54 + 1)], M11)) rfl rfl rfl ?_
                            refine ml_st (S' := (281, [], [.int (u54 + 1)], M11)) rfl rfl rfl ?_
                            exact ml_ret rfl (rfl) (⟨_, _, _, rfl, hR13, (eqI.rf.put f15 (by decide)), eqR.rf⟩)
                      · have c_226 : ¬ (¬ x3 = 7) := of_decide_eq_false c_226
                        refine ml_st (S' := (230, [(0, .ref m0), (1, .int x1), (2, .int x2), (3, .int x3)], [.ref m0], M11)) rfl rfl rfl ?_
                        refine rg_ref (S' := (233, [(0, .ref m0), (1, .int x1), (2, .int x2), (3, .int x3)], [.ref (q 42)], M11)) rfl hR13 rfl rfl ?_
                        refine ml_st (S' := (234, [(0, .ref m0), (1, .int x1), (2, .int x2), (3, .int x3)], [.int x2, .ref (q 42)], M11)) rfl rfl rfl ?_
                        have hx234 := hj_52.2.2 c_189
                        obtain ⟨v57, hv58⟩ := (hmk x2.toNatClampNeg (by show x2.toInt.toNat < km; omega)).1 42 (by decide)
                        refine ra_ld (k := 42) (S' := (235, [(0, .ref m0), (1, .int x1), (2, .int x2), (3, .int x3)], [.int v57], M11)) rfl hR13 rfl (vin_lt hj_52.1 (by omega)) (hv58) rfl ?_
                        refine ml_st (S' := (281, [], [.int v57], M11)) rfl rfl rfl ?_
                        exact ml_ret rfl (rfl) (⟨_, _, _, rfl, hR13, (eqI.rf.put f15 (by decide)), eqR.rf⟩)
                    · have c_211 : ¬ (¬ x3 = 6) := of_decide_eq_false c_211
                      refine ml_st (S' := (215, [(0, .ref m0), (1, .int x1), (2, .int x2), (3, .int x3)], [.ref m0], M11)) rfl rfl rfl ?_
                      refine rg_ref (S' := (218, [(0, .ref m0), (1, .int x1), (2, .int x2), (3, .int x3)], [.ref (q 40)], M11)) rfl hR13 rfl rfl ?_
                      refine ml_st (S' := (219, [(0, .ref m0), (1, .int x1), (2, .int x2), (3, .int x3)], [.int x2, .ref (q 40)], M11)) rfl rfl rfl ?_
                      have hx219 := hj_52.2.2 c_189
                      obtain ⟨v59, hv60⟩ := (hmk x2.toNatClampNeg (by show x2.toInt.toNat < km; omega)).1 40 (by decide)
                      refine ra_ld (k := 40) (S' := (220, [(0, .ref m0), (1, .int x1), (2, .int x2), (3, .int x3)], [.int v59], M11)) rfl hR13 rfl (vin_lt hj_52.1 (by omega)) (hv60) rfl ?_
                      refine ml_st (S' := (281, [], [.int v59], M11)) rfl rfl rfl ?_
                      exact ml_ret rfl (rfl) (⟨_, _, _, rfl, hR13, (eqI.rf.put f15 (by decide)), eqR.rf⟩)
                  · have c_196 : ¬ (¬ x3 = 5) := of_decide_eq_false c_196
                    refine ml_st (S' := (200, [(0, .ref m0), (1, .int x1), (2, .int x2), (3, .int x3)], [.ref m0], M11)) rfl rfl rfl ?_
                    refine rg_ref (S' := (203, [(0, .ref m0), (1, .int x1), (2, .int x2), (3, .int x3)], [.ref (q 39)], M11)) rfl hR13 rfl rfl ?_
                    refine ml_st (S' := (204, [(0, .ref m0), (1, .int x1), (2, .int x2), (3, .int x3)], [.int x2, .ref (q 39)], M11)) rfl rfl rfl ?_
                    have hx204 := hj_52.2.2 c_189
                    obtain ⟨v61, hv62⟩ := (hmk x2.toNatClampNeg (by show x2.toInt.toNat < km; omega)).1 39 (by decide)
                    refine ra_ld (k := 39) (S' := (205, [(0, .ref m0), (1, .int x1), (2, .int x2), (3, .int x3)], [.int v61], M11)) rfl hR13 rfl (vin_lt hj_52.1 (by omega)) (hv62) rfl ?_
                    refine ml_st (S' := (281, [], [.int v61], M11)) rfl rfl rfl ?_
                    exact ml_ret rfl (rfl) (⟨_, _, _, rfl, hR13, (eqI.rf.put f15 (by decide)), eqR.rf⟩)
                · have c_189 : ¬ (¬ x1 = 0) := of_decide_eq_false c_189
                  refine ml_st (S' := (193, [(0, .ref m0), (1, .int x1), (2, .int x2), (3, .int x3)], [.int 0], M11)) rfl rfl rfl ?_
                  exact ml_ret rfl (rfl) (⟨_, _, _, rfl, hR13, (eqI.rf.put f15 (by decide)), eqR.rf⟩)
            · have c_47 : ¬ (x2 < s47_0) := of_decide_eq_false c_47
              refine ml_st (S' := (51, [], [.int (-1)], M11)) rfl rfl rfl ?_
              exact ml_ret rfl (rfl) (⟨_, _, _, rfl, hR13, (eqI.rf.put f15 (by decide)), eqR.rf⟩)
          refine ml_if (S1 := (43, [(0, .ref m0), (1, .int x1), (2, .int x2), (3, .int x3)], [.int x2], M11)) (S2 := (36, [(0, .ref m0), (1, .int x1), (2, .int x2), (3, .int x3)], [.int x2], M11)) rfl rfl rfl (fun c_33 => ?_) (fun c_33 => ?_)
          · have c_33 : x1 = 0 := of_decide_eq_true c_33
            refine ml_st (S' := (44, [(0, .ref m0), (1, .int x1), (2, .int x2), (3, .int x3)], [.ref m0, .int x2], M11)) rfl rfl rfl ?_
            refine rg_int (S' := (47, [(0, .ref m0), (1, .int x1), (2, .int x2), (3, .int x3)], [.int (nI kf), .int x2], M11)) rfl hR13 rfl ((f15 25 (by decide)).trans (kq25)) rfl ?_
            exact J_47 (nI kf) (⟨fun e => by first | exact absurd e c_33 | rfl, fun e => by first | exact absurd c_33 e | rfl⟩)
          · have c_33 : ¬ (x1 = 0) := of_decide_eq_false c_33
            refine ml_st (S' := (37, [(0, .ref m0), (1, .int x1), (2, .int x2), (3, .int x3)], [.ref m0, .int x2], M11)) rfl rfl rfl ?_
            refine rg_int (S' := (40, [(0, .ref m0), (1, .int x1), (2, .int x2), (3, .int x3)], [.int (nI km), .int x2], M11)) rfl hR13 rfl ((f15 26 (by decide)).trans (kq26)) rfl ?_
            refine ml_st (S' := (47, [(0, .ref m0), (1, .int x1), (2, .int x2), (3, .int x3)], [.int (nI km), .int x2], M11)) rfl rfl rfl ?_
            exact J_47 (nI km) (⟨fun e => by first | exact absurd e c_33 | rfl, fun e => by first | exact absurd c_33 e | rfl⟩)
    · have c_12 : ¬ (x3 ≤ 9) := of_decide_eq_false c_12
      refine ml_st (S' := (16, [(0, .ref m0)], [.ref m0], M11)) rfl rfl rfl ?_
      refine ml_call (a := [.ref m0]) (rest := []) rfl (hR13.okc rfl rfl rfl) rfl rfl (rm_bad hR13 (by omega)) (fun v63 M64 h65 => ?_)
      obtain ⟨u71, I66, R67, rfl, hR68, hI69, hV70, w72⟩ := h65
      show ml _ _ _ (19, [(0, .ref m0)], [.int u71], M64) _
      exact ml_ret rfl (rfl) (⟨_, _, _, rfl, hR68, ((eqI.rf.put f15 (by decide)).tr hI69 (by decide)), (eqR.rf.tr hV70 (by decide))⟩)
set_option maxHeartbeats 2000000 in
theorem rm_find {g : xe_G}  {m0 : Nat} {q : Nat → Nat} {z : Nat × Nat} {I : rI} {R : rR} {M : mi_H} {x1 x2 x3 kn : Int32} {n : Nat} {f : Nat → Int32}  (hR : RS g m0 q z I R M) (hk18 : I 18 = some kn) (hG : (kn < 0 ∨ GD n f I R)) {d : Nat} (hd : 3 ≤ d) : mt (mT g) d 207 [.ref m0, .int x1, .int x2, .int x3] M (fun v M' => ∃ (x : Int32) (I' : rI) (R' : rR), v = some (.int x) ∧ RS g m0 q z I' R' M' ∧ eqI [0] I I' ∧ eqR [] R R') := by
  obtain ⟨d, rfl⟩ : ∃ e, d = e + 1 := ⟨d - 1, by omega⟩
  refine mt_in (b := mb_207 g) rfl rfl ?_
  show ml (mT g) d (mb_207 g).2 (0, [(0, .ref m0), (1, .int x1), (2, .int x2), (3, .int x3)], [], M) _
  refine ml_blk 2 (S' := (2, [(0, .ref m0), (1, .int x1), (2, .int x2), (3, .int x3)], [.int 0, .ref m0], M)) rfl ?_
  refine rp_int rfl hR rfl (fun M11 I12 hR13 e14 f15 => ?_)
  show ml _ _ _ (5, [(0, .ref m0), (1, .int x1), (2, .int x2), (3, .int x3)], [], M11) _
  refine ml_st (S' := (6, [(0, .ref m0), (1, .int x1), (2, .int x2), (3, .int x3)], [.ref m0], M11)) rfl rfl rfl ?_
  refine rg_int (S' := (9, [(0, .ref m0), (1, .int x1), (2, .int x2), (3, .int x3)], [.int kn], M11)) rfl hR13 rfl ((f15 18 (by decide)).trans (hk18)) rfl ?_
  refine ml_if (S1 := (30, [], [], M11)) (S2 := (12, [(0, .ref m0), (1, .int x1), (2, .int x2), (3, .int x3)], [], M11)) rfl rfl rfl (fun c_9 => ?_) (fun c_9 => ?_)
  · have c_9 : kn < 0 := of_decide_eq_true c_9
    refine ml_st (S' := (31, [], [.int (-1)], M11)) rfl rfl rfl ?_
    exact ml_ret rfl (rfl) (⟨_, _, _, rfl, hR13, (eqI.rf.put f15 (by decide)), eqR.rf⟩)
  · have c_9 : ¬ (kn < 0) := of_decide_eq_false c_9
    obtain ⟨S, cN, sa, sl, ch, cp, mj, pa, py, hA, fA, mA, aA, nf, ni, kf, km, hF0, hY0, hP0, hE0, hFO, kq54, kq58, kq61, hkf, kq25, hfk, hkm, kq26, hmk, hNW⟩ := hG.resolve_left (c_9)
    have hn := hF0.1
    refine ml_blk 2 (S' := (14, [(0, .ref m0), (1, .int x1), (2, .int x2), (3, .int x3)], [.int x2, .ref m0], M11)) rfl ?_
    have hF16 : FK n f I12 R := (hF0.mono (pIx f15 (by decide)) (fun _ _ => rfl))
    have hP17 : PK n f S cp mj pa py I12 R := (hP0.mono (pIx f15 (by decide)) (fun _ _ => rfl))
    refine ml_call (a := [.ref m0, .int x2]) (rest := []) rfl (hR13.okc rfl rfl rfl) rfl rfl (rm_tag hR13 hF16 hP17 (by omega)) (fun v18 M19 h20 => ?_)
    obtain ⟨rfl, h20⟩ := h20
    rw [h20]
    show ml _ _ _ (17, [(0, .ref m0), (1, .int x1), (2, .int x2), (3, .int x3)], [.int (tgf f cp pa x2)], M11) _
    refine ml_st (S' := (18, [(0, .ref m0), (1, .int x1), (2, .int x2), (3, .int x3)], [.int 1, .int (tgf f cp pa x2)], M11)) rfl rfl rfl ?_
    refine ml_if2 (S1 := (30, [], [], M11)) (S2 := (21, [(0, .ref m0), (1, .int x1), (2, .int x2), (3, .int x3)], [], M11)) rfl rfl rfl (fun c_18 => ?_) (fun c_18 => ?_)
    · have c_18 : ¬ (tgf f cp pa x2) = 1 := of_decide_eq_true c_18
      refine ml_st (S' := (31, [], [.int (-1)], M11)) rfl rfl rfl ?_
      exact ml_ret rfl (rfl) (⟨_, _, _, rfl, hR13, (eqI.rf.put f15 (by decide)), eqR.rf⟩)
    · have c_18 : ¬ (¬ (tgf f cp pa x2) = 1) := of_decide_eq_false c_18
      refine ml_blk 2 (S' := (23, [(0, .ref m0), (1, .int x1), (2, .int x2), (3, .int x3)], [.int x3, .ref m0], M11)) rfl ?_
      refine ml_call (a := [.ref m0, .int x3]) (rest := []) rfl (hR13.okc rfl rfl rfl) rfl rfl (rm_tag hR13 hF16 hP17 (by omega)) (fun v21 M22 h23 => ?_)
      obtain ⟨rfl, h23⟩ := h23
      rw [h23]
      show ml _ _ _ (26, [(0, .ref m0), (1, .int x1), (2, .int x2), (3, .int x3)], [.int (tgf f cp pa x3)], M11) _
      refine ml_st (S' := (27, [(0, .ref m0), (1, .int x1), (2, .int x2), (3, .int x3)], [.int 1, .int (tgf f cp pa x3)], M11)) rfl rfl rfl ?_
      refine ml_if2 (S1 := (32, [(0, .ref m0), (1, .int x1), (2, .int x2), (3, .int x3)], [], M11)) (S2 := (30, [], [], M11)) rfl rfl rfl (fun c_27 => ?_) (fun c_27 => ?_)
      · have c_27 : (tgf f cp pa x3) = 1 := of_decide_eq_true c_27
        refine ml_blk 2 (S' := (34, [(0, .ref m0), (1, .int x1), (2, .int x2), (3, .int x3)], [.int x2, .ref m0], M11)) rfl ?_
        refine ml_call (a := [.ref m0, .int x2]) (rest := []) rfl (hR13.okc rfl rfl rfl) rfl rfl (rm_symOf hR13 hP17 (Decidable.not_not.mp c_18) (by omega)) (fun v24 M25 h26 => ?_)
        obtain ⟨rfl, h26⟩ := h26
        rw [h26]
        show ml _ _ _ (37, [(0, .ref m0), (1, .int x1), (2, .int x2), (3, .int x3)], [.int (pyf py x2)], M11) _
        refine ml_st (S' := (39, [(4, .int (pyf py x2)), (0, .ref m0), (1, .int x1), (2, .int x2), (3, .int x3)], [], M11)) rfl rfl rfl ?_
        refine ml_blk 2 (S' := (41, [(4, .int (pyf py x2)), (0, .ref m0), (1, .int x1), (2, .int x2), (3, .int x3)], [.int x3, .ref m0], M11)) rfl ?_
        refine ml_call (a := [.ref m0, .int x3]) (rest := []) rfl (hR13.okc rfl rfl rfl) rfl rfl (rm_symOf hR13 hP17 (c_27) (by omega)) (fun v27 M28 h29 => ?_)
        obtain ⟨rfl, h29⟩ := h29
        rw [h29]
        show ml _ _ _ (44, [(4, .int (pyf py x2)), (0, .ref m0), (1, .int x1), (2, .int x2), (3, .int x3)], [.int (pyf py x3)], M11) _
        refine ml_st (S' := (46, [(5, .int (pyf py x3)), (4, .int (pyf py x2)), (0, .ref m0), (1, .int x1), (2, .int x2), (3, .int x3)], [], M11)) rfl rfl rfl ?_
        refine ml_st (S' := (47, [(5, .int (pyf py x3)), (4, .int (pyf py x2)), (0, .ref m0), (1, .int x1), (2, .int x2), (3, .int x3)], [.int 0], M11)) rfl rfl rfl ?_
        refine ml_st (S' := (49, [(0, .ref m0), (1, .int x1), (4, .int (pyf py x2)), (5, .int (pyf py x3)), (6, .int 0)], [], M11)) rfl rfl rfl ?_
        have L_49 : ∀ (n_49 : Nat) (i49_6 : Int32), (2147483648 - i49_6.toInt).toNat ≤ n_49 → 0 ≤ i49_6.toInt → ml (mT g) d (mb_207 g).2 (49, [(0, .ref m0), (1, .int x1), (4, .int (pyf py x2)), (5, .int (pyf py x3)), (6, .int i49_6)], [], M11) (fun v M' => ∃ (x : Int32) (I' : rI) (R' : rR), v = some (.int x) ∧ RS g m0 q z I' R' M' ∧ eqI [0] I I' ∧ eqR [] R R') := by
          intro n_49
          induction n_49 with
          | zero => intro i49_6 hn; exact (loop_zero hn).elim
          | succ n_49 ih_49 =>
            intro i49_6 hn_49 hi_49
            refine ml_blk 2 (S' := (52, [(0, .ref m0), (1, .int x1), (4, .int (pyf py x2)), (5, .int (pyf py x3)), (6, .int i49_6)], [.int x1, .int i49_6], M11)) rfl ?_
            have J_66 : ∀ (s66_0 : Int32), ((x1 = 0 → s66_0 = nI kf) ∧ (¬ x1 = 0 → s66_0 = nI km)) → ml (mT g) d (mb_207 g).2 (66, [(0, .ref m0), (1, .int x1), (4, .int (pyf py x2)), (5, .int (pyf py x3)), (6, .int i49_6)], [.int s66_0, .int i49_6], M11) (fun v M' => ∃ (x : Int32) (I' : rI) (R' : rR), v = some (.int x) ∧ RS g m0 q z I' R' M' ∧ eqI [0] I I' ∧ eqR [] R R') := by
              intro s66_0 hj_66
              refine ml_if2 (S1 := (130, [(0, .ref m0), (1, .int x1), (4, .int (pyf py x2)), (5, .int (pyf py x3)), (6, .int i49_6)], [], M11)) (S2 := (69, [(0, .ref m0), (1, .int x1), (4, .int (pyf py x2)), (5, .int (pyf py x3)), (6, .int i49_6)], [], M11)) rfl rfl rfl (fun c_66 => ?_) (fun c_66 => ?_)
              · have c_66 : s66_0 ≤ i49_6 := of_decide_eq_true c_66
                refine ml_st (S' := (131, [(0, .ref m0), (1, .int x1), (4, .int (pyf py x2)), (5, .int (pyf py x3)), (6, .int i49_6)], [.int (-1)], M11)) rfl rfl rfl ?_
                exact ml_ret rfl (rfl) (⟨_, _, _, rfl, hR13, (eqI.rf.put f15 (by decide)), eqR.rf⟩)
              · have c_66 : ¬ (s66_0 ≤ i49_6) := of_decide_eq_false c_66
                have hj_69 : ((x1 = 0 → i49_6.toInt < kf) ∧ (¬ x1 = 0 → i49_6.toInt < km) ∧ i49_6 < 8192) := by rcases Decidable.em (x1 = 0) with e | e; (have q := hj_66.1 e ▸ Int32.not_le.mp c_66; exact ⟨fun _ => i_ltn q hkf, fun e2 => absurd e e2, i_lt8 q hkf⟩); (have q := hj_66.2 e ▸ Int32.not_le.mp c_66; exact ⟨fun e2 => absurd e2 e, fun _ => i_ltn q hkm, i_lt8 q hkm⟩)
                refine ml_st (S' := (70, [(0, .ref m0), (1, .int x1), (4, .int (pyf py x2)), (5, .int (pyf py x3)), (6, .int i49_6)], [.int x1], M11)) rfl rfl rfl ?_
                refine ml_if (S1 := (83, [(0, .ref m0), (1, .int x1), (4, .int (pyf py x2)), (5, .int (pyf py x3)), (6, .int i49_6)], [], M11)) (S2 := (73, [(0, .ref m0), (1, .int x1), (4, .int (pyf py x2)), (5, .int (pyf py x3)), (6, .int i49_6)], [], M11)) rfl rfl rfl (fun c_70 => ?_) (fun c_70 => ?_)
                · have c_70 : x1 = 0 := of_decide_eq_true c_70
                  refine ml_st (S' := (84, [(0, .ref m0), (1, .int x1), (4, .int (pyf py x2)), (5, .int (pyf py x3)), (6, .int i49_6)], [.ref m0], M11)) rfl rfl rfl ?_
                  refine rg_ref (S' := (87, [(0, .ref m0), (1, .int x1), (4, .int (pyf py x2)), (5, .int (pyf py x3)), (6, .int i49_6)], [.ref (q 28)], M11)) rfl hR13 rfl rfl ?_
                  refine ml_st (S' := (89, [(0, .ref m0), (1, .int x1), (4, .int (pyf py x2)), (5, .int (pyf py x3)), (6, .int i49_6)], [.int i49_6, .ref (q 28)], M11)) rfl rfl rfl ?_
                  have hx89 := hj_69.1 c_70
                  obtain ⟨v30, hv31⟩ := hfk i49_6.toNatClampNeg (by show i49_6.toInt.toNat < kf; omega) 28 (by decide)
                  refine ra_ld (k := 28) (S' := (90, [(0, .ref m0), (1, .int x1), (4, .int (pyf py x2)), (5, .int (pyf py x3)), (6, .int i49_6)], [.int v30], M11)) rfl hR13 rfl (vin_lt hi_49 (by omega)) (hv31) rfl ?_
                  refine ml_st (S' := (92, [(0, .ref m0), (1, .int x1), (4, .int (pyf py x2)), (5, .int (pyf py x3)), (6, .int i49_6)], [.int (pyf py x2), .int v30], M11)) rfl rfl rfl ?_
                  refine ml_if2 (S1 := (124, [(0, .ref m0), (1, .int x1), (4, .int (pyf py x2)), (5, .int (pyf py x3)), (6, .int i49_6)], [], M11)) (S2 := (95, [(0, .ref m0), (1, .int x1), (4, .int (pyf py x2)), (5, .int (pyf py x3)), (6, .int i49_6)], [], M11)) rfl rfl rfl (fun c_92 => ?_) (fun c_92 => ?_)
                  · have c_92 : ¬ v30 = (pyf py x2) := of_decide_eq_true c_92
                    refine ml_st (S' := (127, [(6, .int (i49_6 + 1)), (0, .ref m0), (1, .int x1), (4, .int (pyf py x2)), (5, .int (pyf py x3))], [], M11)) rfl rfl rfl ?_
                    refine ml_st (S' := (49, [(0, .ref m0), (1, .int x1), (4, .int (pyf py x2)), (5, .int (pyf py x3)), (6, .int (i49_6 + 1))], [], M11)) rfl rfl rfl ?_
                    exact ih_49 (i49_6 + 1) (loop_inc hj_69.2.2 hn_49) (by rw [inc_lt hj_69.2.2]; omega)
                  · have c_92 : ¬ (¬ v30 = (pyf py x2)) := of_decide_eq_false c_92
                    refine ml_st (S' := (96, [(0, .ref m0), (1, .int x1), (4, .int (pyf py x2)), (5, .int (pyf py x3)), (6, .int i49_6)], [.int x1], M11)) rfl rfl rfl ?_
                    refine ml_if (S1 := (109, [(0, .ref m0), (1, .int x1), (4, .int (pyf py x2)), (5, .int (pyf py x3)), (6, .int i49_6)], [], M11)) (S2 := (99, [(0, .ref m0), (1, .int x1), (4, .int (pyf py x2)), (5, .int (pyf py x3)), (6, .int i49_6)], [], M11)) rfl rfl rfl (fun c_96 => ?_) (fun c_96 => ?_)
                    · have c_96 : x1 = 0 := of_decide_eq_true c_96
                      refine ml_st (S' := (110, [(0, .ref m0), (1, .int x1), (4, .int (pyf py x2)), (5, .int (pyf py x3)), (6, .int i49_6)], [.ref m0], M11)) rfl rfl rfl ?_
                      refine rg_ref (S' := (113, [(0, .ref m0), (1, .int x1), (4, .int (pyf py x2)), (5, .int (pyf py x3)), (6, .int i49_6)], [.ref (q 29)], M11)) rfl hR13 rfl rfl ?_
                      refine ml_st (S' := (115, [(0, .ref m0), (1, .int x1), (4, .int (pyf py x2)), (5, .int (pyf py x3)), (6, .int i49_6)], [.int i49_6, .ref (q 29)], M11)) rfl rfl rfl ?_
                      have hx115 := hj_69.1 c_96
                      obtain ⟨v32, hv33⟩ := hfk i49_6.toNatClampNeg (by show i49_6.toInt.toNat < kf; omega) 29 (by decide)
                      refine ra_ld (k := 29) (S' := (116, [(0, .ref m0), (1, .int x1), (4, .int (pyf py x2)), (5, .int (pyf py x3)), (6, .int i49_6)], [.int v32], M11)) rfl hR13 rfl (vin_lt hi_49 (by omega)) (hv33) rfl ?_
                      refine ml_st (S' := (118, [(0, .ref m0), (1, .int x1), (4, .int (pyf py x2)), (5, .int (pyf py x3)), (6, .int i49_6)], [.int (pyf py x3), .int v32], M11)) rfl rfl rfl ?_
                      refine ml_if2 (S1 := (124, [(0, .ref m0), (1, .int x1), (4, .int (pyf py x2)), (5, .int (pyf py x3)), (6, .int i49_6)], [], M11)) (S2 := (121, [(0, .ref m0), (1, .int x1), (4, .int (pyf py x2)), (5, .int (pyf py x3)), (6, .int i49_6)], [], M11)) rfl rfl rfl (fun c_118 => ?_) (fun c_118 => ?_)
                      · have c_118 : ¬ v32 = (pyf py x3) := of_decide_eq_true c_118
                        refine ml_st (S' := (127, [(6, .int (i49_6 + 1)), (0, .ref m0), (1, .int x1), (4, .int (pyf py x2)), (5, .int (pyf py x3))], [], M11)) rfl rfl rfl ?_
                        refine ml_st (S' := (49, [(0, .ref m0), (1, .int x1), (4, .int (pyf py x2)), (5, .int (pyf py x3)), (6, .int (i49_6 + 1))], [], M11)) rfl rfl rfl ?_
                        exact ih_49 (i49_6 + 1) (loop_inc hj_69.2.2 hn_49) (by rw [inc_lt hj_69.2.2]; omega)
                      · have c_118 : ¬ (¬ v32 = (pyf py x3)) := of_decide_eq_false c_118
                        refine ml_st (S' := (123, [(0, .ref m0), (1, .int x1), (4, .int (pyf py x2)), (5, .int (pyf py x3)), (6, .int i49_6)], [.int i49_6], M11)) rfl rfl rfl ?_
                        exact ml_ret rfl (rfl) (⟨_, _, _, rfl, hR13, (eqI.rf.put f15 (by decide)), eqR.rf⟩)
                    · have c_96 : ¬ (x1 = 0) := of_decide_eq_false c_96
                      refine ml_st (S' := (100, [(0, .ref m0), (1, .int x1), (4, .int (pyf py x2)), (5, .int (pyf py x3)), (6, .int i49_6)], [.ref m0], M11)) rfl rfl rfl ?_
                      refine rg_ref (S' := (103, [(0, .ref m0), (1, .int x1), (4, .int (pyf py x2)), (5, .int (pyf py x3)), (6, .int i49_6)], [.ref (q 36)], M11)) rfl hR13 rfl rfl ?_
                      refine ml_st (S' := (105, [(0, .ref m0), (1, .int x1), (4, .int (pyf py x2)), (5, .int (pyf py x3)), (6, .int i49_6)], [.int i49_6, .ref (q 36)], M11)) rfl rfl rfl ?_
                      have hx105 := hj_69.2.1 c_96
                      obtain ⟨v34, hv35, -⟩ := (hmk i49_6.toNatClampNeg (by show i49_6.toInt.toNat < km; omega)).2.2
                      refine ra_ld (k := 36) (S' := (106, [(0, .ref m0), (1, .int x1), (4, .int (pyf py x2)), (5, .int (pyf py x3)), (6, .int i49_6)], [.int v34], M11)) rfl hR13 rfl (vin_lt hi_49 (by omega)) (hv35) rfl ?_
                      refine ml_st (S' := (116, [(0, .ref m0), (1, .int x1), (4, .int (pyf py x2)), (5, .int (pyf py x3)), (6, .int i49_6)], [.int v34], M11)) rfl rfl rfl ?_
                      refine ml_st (S' := (118, [(0, .ref m0), (1, .int x1), (4, .int (pyf py x2)), (5, .int (pyf py x3)), (6, .int i49_6)], [.int (pyf py x3), .int v34], M11)) rfl rfl rfl ?_
                      refine ml_if2 (S1 := (124, [(0, .ref m0), (1, .int x1), (4, .int (pyf py x2)), (5, .int (pyf py x3)), (6, .int i49_6)], [], M11)) (S2 := (121, [(0, .ref m0), (1, .int x1), (4, .int (pyf py x2)), (5, .int (pyf py x3)), (6, .int i49_6)], [], M11)) rfl rfl rfl (fun c_118 => ?_) (fun c_118 => ?_)
                      · have c_118 : ¬ v34 = (pyf py x3) := of_decide_eq_true c_118
                        refine ml_st (S' := (127, [(6, .int (i49_6 + 1)), (0, .ref m0), (1, .int x1), (4, .int (pyf py x2)), (5, .int (pyf py x3))], [], M11)) rfl rfl rfl ?_
                        refine ml_st (S' := (49, [(0, .ref m0), (1, .int x1), (4, .int (pyf py x2)), (5, .int (pyf py x3)), (6, .int (i49_6 + 1))], [], M11)) rfl rfl rfl ?_
                        exact ih_49 (i49_6 + 1) (loop_inc hj_69.2.2 hn_49) (by rw [inc_lt hj_69.2.2]; omega)
                      · have c_118 : ¬ (¬ v34 = (pyf py x3)) := of_decide_eq_false c_118
                        refine ml_st (S' := (123, [(0, .ref m0), (1, .int x1), (4, .int (pyf py x2)), (5, .int (pyf py x3)), (6, .int i49_6)], [.int i49_6], M11)) rfl rfl rfl ?_
                        exact ml_ret rfl (rfl) (⟨_, _, _, rfl, hR13, (eqI.rf.put f15 (by decide)), eqR.rf⟩)
                · have c_70 : ¬ (x1 = 0) := of_decide_eq_false c_70
                  refine ml_st (S' := (74, [(0, .ref m0), (1, .int x1), (4, .int (pyf py x2)), (5, .int (pyf py x3)), (6, .int i49_6)], [.ref m0], M11)) rfl rfl rfl ?_
                  refine rg_ref (S' := (77, [(0, .ref m0), (1, .int x1), (4, .int (pyf py x2)), (5, .int (pyf py x3)), (6, .int i49_6)], [.ref (q 35)], M11)) rfl hR13 rfl rfl ?_
                  refine ml_st (S' := (79, [(0, .ref m0), (1, .int x1), (4, .int (pyf py x2)), (5, .int (pyf py x3)), (6, .int i49_6)], [.int i49_6, .ref (q 35)], M11)) rfl rfl rfl ?_
                  have hx79 := hj_69.2.1 c_70
                  obtain ⟨v36, hv37⟩ := (hmk i49_6.toNatClampNeg (by show i49_6.toInt.toNat < km; omega)).1 35 (by decide)
                  refine ra_ld (k := 35) (S' := (80, [(0, .ref m0), (1, .int x1), (4, .int (pyf py x2)), (5, .int (pyf py x3)), (6, .int i49_6)], [.int v36], M11)) rfl hR13 rfl (vin_lt hi_49 (by omega)) (hv37) rfl ?_
                  refine ml_st (S' := (90, [(0, .ref m0), (1, .int x1), (4, .int (pyf py x2)), (5, .int (pyf py x3)), (6, .int i49_6)], [.int v36], M11)) rfl rfl rfl ?_
                  refine ml_st (S' := (92, [(0, .ref m0), (1, .int x1), (4, .int (pyf py x2)), (5, .int (pyf py x3)), (6, .int i49_6)], [.int (pyf py x2), .int v36], M11)) rfl rfl rfl ?_
                  refine ml_if2 (S1 := (124, [(0, .ref m0), (1, .int x1), (4, .int (pyf py x2)), (5, .int (pyf py x3)), (6, .int i49_6)], [], M11)) (S2 := (95, [(0, .ref m0), (1, .int x1), (4, .int (pyf py x2)), (5, .int (pyf py x3)), (6, .int i49_6)], [], M11)) rfl rfl rfl (fun c_92 => ?_) (fun c_92 => ?_)
                  · have c_92 : ¬ v36 = (pyf py x2) := of_decide_eq_true c_92
                    refine ml_st (S' := (127, [(6, .int (i49_6 + 1)), (0, .ref m0), (1, .int x1), (4, .int (pyf py x2)), (5, .int (pyf py x3))], [], M11)) rfl rfl rfl ?_
                    refine ml_st (S' := (49, [(0, .ref m0), (1, .int x1), (4, .int (pyf py x2)), (5, .int (pyf py x3)), (6, .int (i49_6 + 1))], [], M11)) rfl rfl rfl ?_
                    exact ih_49 (i49_6 + 1) (loop_inc hj_69.2.2 hn_49) (by rw [inc_lt hj_69.2.2]; omega)
                  · have c_92 : ¬ (¬ v36 = (pyf py x2)) := of_decide_eq_false c_92
                    refine ml_st (S' := (96, [(0, .ref m0), (1, .int x1), (4, .int (pyf py x2)), (5, .int (pyf py x3)), (6, .int i49_6)], [.int x1], M11)) rfl rfl rfl ?_
                    refine ml_if (S1 := (109, [(0, .ref m0), (1, .int x1), (4, .int (pyf py x2)), (5, .int (pyf py x3)), (6, .int i49_6)], [], M11)) (S2 := (99, [(0, .ref m0), (1, .int x1), (4, .int (pyf py x2)), (5, .int (pyf py x3)), (6, .int i49_6)], [], M11)) rfl rfl rfl (fun c_96 => ?_) (fun c_96 => ?_)
                    · have c_96 : x1 = 0 := of_decide_eq_true c_96
                      refine ml_st (S' := (110, [(0, .ref m0), (1, .int x1), (4, .int (pyf py x2)), (5, .int (pyf py x3)), (6, .int i49_6)], [.ref m0], M11)) rfl rfl rfl ?_
                      refine rg_ref (S' := (113, [(0, .ref m0), (1, .int x1), (4, .int (pyf py x2)), (5, .int (pyf py x3)), (6, .int i49_6)], [.ref (q 29)], M11)) rfl hR13 rfl rfl ?_
                      refine ml_st (S' := (115, [(0, .ref m0), (1, .int x1), (4, .int (pyf py x2)), (5, .int (pyf py x3)), (6, .int i49_6)], [.int i49_6, .ref (q 29)], M11)) rfl rfl rfl ?_
                      have hx115 := hj_69.1 c_96
                      obtain ⟨v38, hv39⟩ := hfk i49_6.toNatClampNeg (by show i49_6.toInt.toNat < kf; omega) 29 (by decide)
                      refine ra_ld (k := 29) (S' := (116, [(0, .ref m0), (1, .int x1), (4, .int (pyf py x2)), (5, .int (pyf py x3)), (6, .int i49_6)], [.int v38], M11)) rfl hR13 rfl (vin_lt hi_49 (by omega)) (hv39) rfl ?_
                      refine ml_st (S' := (118, [(0, .ref m0), (1, .int x1), (4, .int (pyf py x2)), (5, .int (pyf py x3)), (6, .int i49_6)], [.int (pyf py x3), .int v38], M11)) rfl rfl rfl ?_
                      refine ml_if2 (S1 := (124, [(0, .ref m0), (1, .int x1), (4, .int (pyf py x2)), (5, .int (pyf py x3)), (6, .int i49_6)], [], M11)) (S2 := (121, [(0, .ref m0), (1, .int x1), (4, .int (pyf py x2)), (5, .int (pyf py x3)), (6, .int i49_6)], [], M11)) rfl rfl rfl (fun c_118 => ?_) (fun c_118 => ?_)
                      · have c_118 : ¬ v38 = (pyf py x3) := of_decide_eq_true c_118
                        refine ml_st (S' := (127, [(6, .int (i49_6 + 1)), (0, .ref m0), (1, .int x1), (4, .int (pyf py x2)), (5, .int (pyf py x3))], [], M11)) rfl rfl rfl ?_
                        refine ml_st (S' := (49, [(0, .ref m0), (1, .int x1), (4, .int (pyf py x2)), (5, .int (pyf py x3)), (6, .int (i49_6 + 1))], [], M11)) rfl rfl rfl ?_
                        exact ih_49 (i49_6 + 1) (loop_inc hj_69.2.2 hn_49) (by rw [inc_lt hj_69.2.2]; omega)
                      · have c_118 : ¬ (¬ v38 = (pyf py x3)) := of_decide_eq_false c_118
                        refine ml_st (S' := (123, [(0, .ref m0), (1, .int x1), (4, .int (pyf py x2)), (5, .int (pyf py x3)), (6, .int i49_6)], [.int i49_6], M11)) rfl rfl rfl ?_
                        exact ml_ret rfl (rfl) (⟨_, _, _, rfl, hR13, (eqI.rf.put f15 (by decide)), eqR.rf⟩)
                    · have c_96 : ¬ (x1 = 0) := of_decide_eq_false c_96
                      refine ml_st (S' := (100, [(0, .ref m0), (1, .int x1), (4, .int (pyf py x2)), (5, .int (pyf py x3)), (6, .int i49_6)], [.ref m0], M11)) rfl rfl rfl ?_
                      refine rg_ref (S' := (103, [(0, .ref m0), (1, .int x1), (4, .int (pyf py x2)), (5, .int (pyf py x3)), (6, .int i49_6)], [.ref (q 36)], M11)) rfl hR13 rfl rfl ?_
                      refine ml_st (S' := (105, [(0, .ref m0), (1, .int x1), (4, .int (pyf py x2)), (5, .int (pyf py x3)), (6, .int i49_6)], [.int i49_6, .ref (q 36)], M11)) rfl rfl rfl ?_
                      have hx105 := hj_69.2.1 c_96
                      obtain ⟨v40, hv41, -⟩ := (hmk i49_6.toNatClampNeg (by show i49_6.toInt.toNat < km; omega)).2.2
                      refine ra_ld (k := 36) (S' := (106, [(0, .ref m0), (1, .int x1), (4, .int (pyf py x2)), (5, .int (pyf py x3)), (6, .int i49_6)], [.int v40], M11)) rfl hR13 rfl (vin_lt hi_49 (by omega)) (hv41) rfl ?_
                      refine ml_st (S' := (116, [(0, .ref m0), (1, .int x1), (4, .int (pyf py x2)), (5, .int (pyf py x3)), (6, .int i49_6)], [.int v40], M11)) rfl rfl rfl ?_
                      refine ml_st (S' := (118, [(0, .ref m0), (1, .int x1), (4, .int (pyf py x2)), (5, .int (pyf py x3)), (6, .int i49_6)], [.int (pyf py x3), .int v40], M11)) rfl rfl rfl ?_
                      refine ml_if2 (S1 := (124, [(0, .ref m0), (1, .int x1), (4, .int (pyf py x2)), (5, .int (pyf py x3)), (6, .int i49_6)], [], M11)) (S2 := (121, [(0, .ref m0), (1, .int x1), (4, .int (pyf py x2)), (5, .int (pyf py x3)), (6, .int i49_6)], [], M11)) rfl rfl rfl (fun c_118 => ?_) (fun c_118 => ?_)
                      · have c_118 : ¬ v40 = (pyf py x3) := of_decide_eq_true c_118
                        refine ml_st (S' := (127, [(6, .int (i49_6 + 1)), (0, .ref m0), (1, .int x1), (4, .int (pyf py x2)), (5, .int (pyf py x3))], [], M11)) rfl rfl rfl ?_
                        refine ml_st (S' := (49, [(0, .ref m0), (1, .int x1), (4, .int (pyf py x2)), (5, .int (pyf py x3)), (6, .int (i49_6 + 1))], [], M11)) rfl rfl rfl ?_
                        exact ih_49 (i49_6 + 1) (loop_inc hj_69.2.2 hn_49) (by rw [inc_lt hj_69.2.2]; omega)
                      · have c_118 : ¬ (¬ v40 = (pyf py x3)) := of_decide_eq_false c_118
                        refine ml_st (S' := (123, [(0, .ref m0), (1, .int x1), (4, .int (pyf py x2)), (5, .int (pyf py x3)), (6, .int i49_6)], [.int i49_6], M11)) rfl rfl rfl ?_
                        exact ml_ret rfl (rfl) (⟨_, _, _, rfl, hR13, (eqI.rf.put f15 (by decide)), eqR.rf⟩)
            refine ml_if (S1 := (62, [(0, .ref m0), (1, .int x1), (4, .int (pyf py x2)), (5, .int (pyf py x3)), (6, .int i49_6)], [.int i49_6], M11)) (S2 := (55, [(0, .ref m0), (1, .int x1), (4, .int (pyf py x2)), (5, .int (pyf py x3)), (6, .int i49_6)], [.int i49_6], M11)) rfl rfl rfl (fun c_52 => ?_) (fun c_52 => ?_)
            · have c_52 : x1 = 0 := of_decide_eq_true c_52
              refine ml_st (S' := (63, [(0, .ref m0), (1, .int x1), (4, .int (pyf py x2)), (5, .int (pyf py x3)), (6, .int i49_6)], [.ref m0, .int i49_6], M11)) rfl rfl rfl ?_
              refine rg_int (S' := (66, [(0, .ref m0), (1, .int x1), (4, .int (pyf py x2)), (5, .int (pyf py x3)), (6, .int i49_6)], [.int (nI kf), .int i49_6], M11)) rfl hR13 rfl ((f15 25 (by decide)).trans (kq25)) rfl ?_
              exact J_66 (nI kf) (⟨fun e => by first | exact absurd e c_52 | rfl, fun e => by first | exact absurd c_52 e | rfl⟩)
            · have c_52 : ¬ (x1 = 0) := of_decide_eq_false c_52
              refine ml_st (S' := (56, [(0, .ref m0), (1, .int x1), (4, .int (pyf py x2)), (5, .int (pyf py x3)), (6, .int i49_6)], [.ref m0, .int i49_6], M11)) rfl rfl rfl ?_
              refine rg_int (S' := (59, [(0, .ref m0), (1, .int x1), (4, .int (pyf py x2)), (5, .int (pyf py x3)), (6, .int i49_6)], [.int (nI km), .int i49_6], M11)) rfl hR13 rfl ((f15 26 (by decide)).trans (kq26)) rfl ?_
              refine ml_st (S' := (66, [(0, .ref m0), (1, .int x1), (4, .int (pyf py x2)), (5, .int (pyf py x3)), (6, .int i49_6)], [.int (nI km), .int i49_6], M11)) rfl rfl rfl ?_
              exact J_66 (nI km) (⟨fun e => by first | exact absurd e c_52 | rfl, fun e => by first | exact absurd c_52 e | rfl⟩)
        exact L_49 _ 0 (Nat.le_refl _) (by decide)
      · have c_27 : ¬ ((tgf f cp pa x3) = 1) := of_decide_eq_false c_27
        refine ml_st (S' := (31, [], [.int (-1)], M11)) rfl rfl rfl ?_
        exact ml_ret rfl (rfl) (⟨_, _, _, rfl, hR13, (eqI.rf.put f15 (by decide)), eqR.rf⟩)
