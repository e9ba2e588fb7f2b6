/-! entries of the pool are read (laid by wip/p4/d4.py) -/
set_option maxHeartbeats 1000000 in
theorem dx_isTag {g : xe_G} {M : mi_H} {r c b vd mj t pq p : Nat} {it mi fa ic ac aa k1 k2 k3 k4 k5 k6 k7 : Int32} {u6 u7 : Value} (h_r : M.1 r = some (ob 9 [.ref c, .ref b, .ref vd, .int (nI p), .int it])) (h_c : M.1 c = some (ob 3 [.ref b, .ref pq, .int mi, .int (nI mj), .int fa, .int ic, u6, u7, .int ac, .int aa, .int k1, .int k2, .int k3, .int k4, .int k5, .int k6, .int k7])) (ht : t < 256) (hj : mj < 65536) : pt (mT g) 157 [.ref r, .int (nI t)] M (fun v M' => ((tgOk mj t) ∧ v = some (.int 1) ∧ fm [] M M') ∨ ((¬ tgOk mj t) ∧ v = some (.int 0) ∧ fm [] M M')) := by
  refine pt_in (b := mb_157 g) rfl (fun kf => ?_)
  show pl (mT g) kf (mb_157 g).2 (0, [(0, .ref r), (1, .int (nI t))], [], M) _
  have hF : fm [] M M := fm.rf
  refine ps_st (S' := (1, [(0, .ref r), (1, .int (nI t))], [.int (nI t)], M)) rfl rfl rfl ?_
  refine pl_sw rfl (fun t_1 et_1 => ?_)
  have ht_1 : t_1 ∈ [40, 58, 76, 94] := mi_sw_sub et_1 (by decide)
  simp only [List.mem_cons, List.not_mem_nil, or_false] at ht_1
  rcases ht_1 with rfl | rfl | rfl | rfl
  · show pl _ _ _ (40, [(0, .ref r), (1, .int (nI t))], [], M) _
    have m_1 := sw_nat (t := t) (by omega) et_1
    simp at m_1
    refine ps_st (S' := (41, [(0, .ref r), (1, .int (nI t))], [.ref r], M)) rfl rfl rfl ?_
    refine ps_get (S' := (44, [(0, .ref r), (1, .int (nI t))], [.ref c], M)) rfl h_r rfl rfl ?_
    refine ps_get (S' := (47, [(0, .ref r), (1, .int (nI t))], [.int (nI mj)], M)) rfl h_c rfl rfl ?_
    refine ps_st (S' := (49, [(0, .ref r), (1, .int (nI t))], [.int 51, .int (nI mj)], M)) rfl rfl rfl ?_
    refine ps_if2 (S1 := (56, [(0, .ref r), (1, .int (nI t))], [], M)) (S2 := (52, [(0, .ref r), (1, .int (nI t))], [], M)) rfl rfl rfl (fun c_49 => ?_) (fun c_49 => ?_)
    · have c_49 : (nI mj) < 51 := of_decide_eq_true c_49
      have n_49 : mj < 51 := (lt_nI (p := mj) (n := 51) (by omega) (by decide)).mp c_49
      refine ps_st (S' := (57, [], [.int 0], M)) rfl rfl rfl ?_
      exact ps_ret rfl rfl (Or.inr ⟨by
          unfold tgOk
          omega, rfl, hF⟩)
    · have c_49 : ¬ ((nI mj) < 51) := of_decide_eq_false c_49
      have n_49 : ¬ (mj < 51) := fun h9 => c_49 ((lt_nI (p := mj) (n := 51) (by omega) (by decide)).mpr h9)
      refine ps_st (S' := (53, [(0, .ref r), (1, .int (nI t))], [.int 1], M)) rfl rfl rfl ?_
      refine ps_st (S' := (57, [], [.int 1], M)) rfl rfl rfl ?_
      exact ps_ret rfl rfl (Or.inl ⟨by
          unfold tgOk
          omega, rfl, hF⟩)
  · show pl _ _ _ (58, [(0, .ref r), (1, .int (nI t))], [], M) _
    have m_1 := sw_nat (t := t) (by omega) et_1
    simp at m_1
    refine ps_st (S' := (59, [(0, .ref r), (1, .int (nI t))], [.ref r], M)) rfl rfl rfl ?_
    refine ps_get (S' := (62, [(0, .ref r), (1, .int (nI t))], [.ref c], M)) rfl h_r rfl rfl ?_
    refine ps_get (S' := (65, [(0, .ref r), (1, .int (nI t))], [.int (nI mj)], M)) rfl h_c rfl rfl ?_
    refine ps_st (S' := (67, [(0, .ref r), (1, .int (nI t))], [.int 53, .int (nI mj)], M)) rfl rfl rfl ?_
    refine ps_if2 (S1 := (74, [(0, .ref r), (1, .int (nI t))], [], M)) (S2 := (70, [(0, .ref r), (1, .int (nI t))], [], M)) rfl rfl rfl (fun c_67 => ?_) (fun c_67 => ?_)
    · have c_67 : (nI mj) < 53 := of_decide_eq_true c_67
      have n_67 : mj < 53 := (lt_nI (p := mj) (n := 53) (by omega) (by decide)).mp c_67
      refine ps_st (S' := (75, [], [.int 0], M)) rfl rfl rfl ?_
      exact ps_ret rfl rfl (Or.inr ⟨by
          unfold tgOk
          omega, rfl, hF⟩)
    · have c_67 : ¬ ((nI mj) < 53) := of_decide_eq_false c_67
      have n_67 : ¬ (mj < 53) := fun h9 => c_67 ((lt_nI (p := mj) (n := 53) (by omega) (by decide)).mpr h9)
      refine ps_st (S' := (71, [(0, .ref r), (1, .int (nI t))], [.int 1], M)) rfl rfl rfl ?_
      refine ps_st (S' := (75, [], [.int 1], M)) rfl rfl rfl ?_
      exact ps_ret rfl rfl (Or.inl ⟨by
          unfold tgOk
          omega, rfl, hF⟩)
  · show pl _ _ _ (76, [(0, .ref r), (1, .int (nI t))], [], M) _
    have m_1 := sw_nat (t := t) (by omega) et_1
    simp at m_1
    refine ps_st (S' := (77, [(0, .ref r), (1, .int (nI t))], [.ref r], M)) rfl rfl rfl ?_
    refine ps_get (S' := (80, [(0, .ref r), (1, .int (nI t))], [.ref c], M)) rfl h_r rfl rfl ?_
    refine ps_get (S' := (83, [(0, .ref r), (1, .int (nI t))], [.int (nI mj)], M)) rfl h_c rfl rfl ?_
    refine ps_st (S' := (85, [(0, .ref r), (1, .int (nI t))], [.int 55, .int (nI mj)], M)) rfl rfl rfl ?_
    refine ps_if2 (S1 := (92, [(0, .ref r), (1, .int (nI t))], [], M)) (S2 := (88, [(0, .ref r), (1, .int (nI t))], [], M)) rfl rfl rfl (fun c_85 => ?_) (fun c_85 => ?_)
    · have c_85 : (nI mj) < 55 := of_decide_eq_true c_85
      have n_85 : mj < 55 := (lt_nI (p := mj) (n := 55) (by omega) (by decide)).mp c_85
      refine ps_st (S' := (93, [], [.int 0], M)) rfl rfl rfl ?_
      exact ps_ret rfl rfl (Or.inr ⟨by
          unfold tgOk
          omega, rfl, hF⟩)
    · have c_85 : ¬ ((nI mj) < 55) := of_decide_eq_false c_85
      have n_85 : ¬ (mj < 55) := fun h9 => c_85 ((lt_nI (p := mj) (n := 55) (by omega) (by decide)).mpr h9)
      refine ps_st (S' := (89, [(0, .ref r), (1, .int (nI t))], [.int 1], M)) rfl rfl rfl ?_
      refine ps_st (S' := (93, [], [.int 1], M)) rfl rfl rfl ?_
      exact ps_ret rfl rfl (Or.inl ⟨by
          unfold tgOk
          omega, rfl, hF⟩)
  · show pl _ _ _ (94, [(0, .ref r), (1, .int (nI t))], [], M) _
    have m_1 := sw_nat (t := t) (by omega) et_1
    simp at m_1
    refine ps_st (S' := (95, [(0, .ref r), (1, .int (nI t))], [.int (nI t)], M)) rfl rfl rfl ?_
    refine ps_st (S' := (96, [(0, .ref r), (1, .int (nI t))], [.int 1, .int (nI t)], M)) rfl rfl rfl ?_
    refine ps_if2 (S1 := (110, [], [], M)) (S2 := (99, [(0, .ref r), (1, .int (nI t))], [], M)) rfl rfl rfl (fun c_96 => ?_) (fun c_96 => ?_)
    · have c_96 : (nI t) = 1 := of_decide_eq_true c_96
      have n_96 : t = 1 := (eq_nI (p := t) (n := 1) (by omega) (by decide)).mp c_96
      refine ps_st (S' := (111, [], [.int 1], M)) rfl rfl rfl ?_
      refine ps_st (S' := (115, [], [.int 1], M)) rfl rfl rfl ?_
      exact ps_ret rfl rfl (Or.inl ⟨by
          unfold tgOk
          omega, rfl, hF⟩)
    · have c_96 : ¬ ((nI t) = 1) := of_decide_eq_false c_96
      have n_96 : ¬ (t = 1) := fun h9 => c_96 ((eq_nI (p := t) (n := 1) (by omega) (by decide)).mpr h9)
      refine ps_st (S' := (100, [(0, .ref r), (1, .int (nI t))], [.int (nI t)], M)) rfl rfl rfl ?_
      refine ps_st (S' := (101, [(0, .ref r), (1, .int (nI t))], [.int 3, .int (nI t)], M)) rfl rfl rfl ?_
      refine ps_if2 (S1 := (114, [], [], M)) (S2 := (104, [(0, .ref r), (1, .int (nI t))], [], M)) rfl rfl rfl (fun c_101 => ?_) (fun c_101 => ?_)
      · have c_101 : (nI t) < 3 := of_decide_eq_true c_101
        have n_101 : t < 3 := (lt_nI (p := t) (n := 3) (by omega) (by decide)).mp c_101
        refine ps_st (S' := (115, [], [.int 0], M)) rfl rfl rfl ?_
        exact ps_ret rfl rfl (Or.inr ⟨by
            unfold tgOk
            omega, rfl, hF⟩)
      · have c_101 : ¬ ((nI t) < 3) := of_decide_eq_false c_101
        have n_101 : ¬ (t < 3) := fun h9 => c_101 ((lt_nI (p := t) (n := 3) (by omega) (by decide)).mpr h9)
        refine ps_st (S' := (105, [(0, .ref r), (1, .int (nI t))], [.int (nI t)], M)) rfl rfl rfl ?_
        refine ps_st (S' := (107, [(0, .ref r), (1, .int (nI t))], [.int 12, .int (nI t)], M)) rfl rfl rfl ?_
        refine ps_if2 (S1 := (114, [], [], M)) (S2 := (110, [], [], M)) rfl rfl rfl (fun c_107 => ?_) (fun c_107 => ?_)
        · have c_107 : 12 < (nI t) := of_decide_eq_true c_107
          have n_107 : 12 < t := (lt_nI (p := 12) (n := t) (by decide) (by omega)).mp c_107
          refine ps_st (S' := (115, [], [.int 0], M)) rfl rfl rfl ?_
          exact ps_ret rfl rfl (Or.inr ⟨by
              unfold tgOk
              omega, rfl, hF⟩)
        · have c_107 : ¬ (12 < (nI t)) := of_decide_eq_false c_107
          have n_107 : ¬ (12 < t) := fun h9 => c_107 ((lt_nI (p := 12) (n := t) (by decide) (by omega)).mpr h9)
          refine ps_st (S' := (111, [], [.int 1], M)) rfl rfl rfl ?_
          refine ps_st (S' := (115, [], [.int 1], M)) rfl rfl rfl ?_
          exact ps_ret rfl rfl (Or.inl ⟨by
              unfold tgOk
              omega, rfl, hF⟩)
set_option maxHeartbeats 1000000 in
theorem dx_takesIndexes {g : xe_G} {M : mi_H} {r c b vd da n p mj : Nat} {f : Nat → Int32} {it ru wa mi fa ic ac aa k1 k2 k3 k4 k5 k6 k7 : Int32} {u6 u7 : Value} {pq q1 q2 q3 q4 q5 q6 hd cc : Nat} {sz : Int32} {F1 F3 F4 : Nat → Int32} {k t : Nat} (h_r : M.1 r = some (ob 9 [.ref c, .ref b, .ref vd, .int (nI p), .int it])) (h_b : M.1 b = some (ob 1 [.ref da])) (h_da : M.1 da = some (ar .byte n f)) (h_vd : M.1 vd = some (ob 10 [.int ru, .int wa])) (h_c : M.1 c = some (ob 3 [.ref b, .ref pq, .int mi, .int (nI mj), .int fa, .int ic, u6, u7, .int ac, .int aa, .int k1, .int k2, .int k3, .int k4, .int k5, .int k6, .int k7])) (h_pq : M.1 pq = some (ob 7 [.int sz, .ref q1, .ref q2, .ref q3, .ref q4, .ref q5, .ref q6, .int (nI cc)])) (h_q1 : M.1 q1 = some (ar .int hd F1)) (h_q3 : M.1 q3 = some (ar .int hd F3)) (h_q4 : M.1 q4 = some (ar .int hd F4)) (hn : n ≤ 65540) (hp : p ≤ n) (hD : dst5 q1 q2 q3 q4 q5) (hh : hd < 1073741824) (hk : k < hd) (ht : t < 256) : pt (mT g) 166 [.ref r, .int (nI k), .int (nI t)] M (fun v M' => (∃ (p' x y : Nat) (it' : Int32), (s_ix f n t p = .inr (p', x, y)) ∧ v = some (.int 1) ∧ M'.1 r = some (ob 9 [.ref c, .ref b, .ref vd, .int (nI p'), .int it']) ∧ M'.1 vd = some (ob 10 [.int ru, .int wa]) ∧ M'.1 q3 = some (ar .int hd (upd F3 k (nI x))) ∧ M'.1 q4 = some (ar .int hd (upd F4 k (nI y))) ∧ fm [r, vd, q3, q4] M M') ∨ (∃ (e : Nat × Nat), (s_ix f n t p = .inl e) ∧ v = some (.int 0) ∧ M'.1 vd = some (ob 10 [.int (nI e.1), .int (nI e.2)]) ∧ fm [r, vd, q3, q4] M M')) := by
  refine pt_in (b := mb_166 g) rfl (fun kf => ?_)
  show pl (mT g) kf (mb_166 g).2 (0, [(0, .ref r), (1, .int (nI k)), (2, .int (nI t))], [], M) _
  have hF : fm [r, vd, q3, q4] M M := fm.rf
  refine ps_st (S' := (1, [(0, .ref r), (1, .int (nI k)), (2, .int (nI t))], [.ref r], M)) rfl rfl rfl ?_
  refine ps_st (S' := (2, [(0, .ref r), (1, .int (nI k)), (2, .int (nI t))], [.int (nI t), .ref r], M)) rfl rfl rfl ?_
  refine ps_st (S' := (4, [(0, .ref r), (1, .int (nI k)), (2, .int (nI t))], [.int 15, .int (nI t), .ref r], M)) rfl rfl rfl ?_
  refine ps_if2 (S1 := (11, [(0, .ref r), (1, .int (nI k)), (2, .int (nI t))], [.ref r], M)) (S2 := (7, [(0, .ref r), (1, .int (nI k)), (2, .int (nI t))], [.ref r], M)) rfl rfl rfl (fun c_4 => ?_) (fun c_4 => ?_)
  · have c_4 : ¬ (nI t) = 15 := of_decide_eq_true c_4
    have n_4 : ¬ (t = 15) := fun h9 => c_4 ((eq_nI (p := t) (n := 15) (by omega) (by decide)).mpr h9)
    refine ps_st (S' := (12, [(0, .ref r), (1, .int (nI k)), (2, .int (nI t))], [.int 2, .ref r], M)) rfl rfl rfl ?_
    refine pl_call (a := [.ref r, .int 2]) (rest := []) rfl rfl rfl (dx_takes2 h_r h_b h_da h_vd (hn) (by omega)) (fun v1 M2 q3 => ?_)
    rcases q3 with q3 | q3
    · skip
      obtain ⟨q12_ok, rfl, h4, h5, f6⟩ := q3
      have h8 := (f6.1 b (nin2 (ob_ne h_b h_r (by decide)) (ob_ne h_b h_vd (by decide)))).trans h_b
      have h9 := (f6.1 da (nin2 (Ne.symm (ob_ar h_r h_da)) (Ne.symm (ob_ar h_vd h_da)))).trans h_da
      have h10 := (f6.1 c (nin2 (ob_ne h_c h_r (by decide)) (ob_ne h_c h_vd (by decide)))).trans h_c
      have h11 := (f6.1 pq (nin2 (ob_ne h_pq h_r (by decide)) (ob_ne h_pq h_vd (by decide)))).trans h_pq
      have h12 := (f6.1 q1 (nin2 (Ne.symm (ob_ar h_r h_q1)) (Ne.symm (ob_ar h_vd h_q1)))).trans h_q1
      have h13 := (f6.1 q3 (nin2 (Ne.symm (ob_ar h_r h_q3)) (Ne.symm (ob_ar h_vd h_q3)))).trans h_q3
      have h14 := (f6.1 q4 (nin2 (Ne.symm (ob_ar h_r h_q4)) (Ne.symm (ob_ar h_vd h_q4)))).trans h_q4
      have hF15 := hF.tr f6 (by simp)
      show pl _ _ _ (15, [(0, .ref r), (1, .int (nI k)), (2, .int (nI t))], [.int 1], M2) _
      refine ps_if (S1 := (20, [(0, .ref r), (1, .int (nI k)), (2, .int (nI t))], [], M2)) (S2 := (18, [(0, .ref r), (1, .int (nI k)), (2, .int (nI t))], [], M2)) rfl rfl rfl (fun c_15 => ?_) (fun c_15 => ?_)
      rotate_left
      · exact absurd (by decide) (of_decide_eq_false c_15)
      refine ps_st (S' := (21, [(0, .ref r), (1, .int (nI k)), (2, .int (nI t))], [.ref r], M2)) rfl rfl rfl ?_
      refine ps_get (S' := (24, [(0, .ref r), (1, .int (nI k)), (2, .int (nI t))], [.int (nI (by2 f p))], M2)) rfl h4 rfl rfl ?_
      refine ps_st (S' := (25, [(3, .int (nI (by2 f p))), (0, .ref r), (1, .int (nI k)), (2, .int (nI t))], [], M2)) rfl rfl rfl ?_
      refine ps_st (S' := (26, [(3, .int (nI (by2 f p))), (0, .ref r), (1, .int (nI k)), (2, .int (nI t))], [.int 0], M2)) rfl rfl rfl ?_
      refine ps_st (S' := (28, [(4, .int 0), (3, .int (nI (by2 f p))), (0, .ref r), (1, .int (nI k)), (2, .int (nI t))], [], M2)) rfl rfl rfl ?_
      refine ps_st (S' := (29, [(4, .int 0), (3, .int (nI (by2 f p))), (0, .ref r), (1, .int (nI k)), (2, .int (nI t))], [.int (nI t)], M2)) rfl rfl rfl ?_
      refine ps_st (S' := (31, [(4, .int 0), (3, .int (nI (by2 f p))), (0, .ref r), (1, .int (nI k)), (2, .int (nI t))], [.int 7, .int (nI t)], M2)) rfl rfl rfl ?_
      refine ps_if2 (S1 := (74, [(0, .ref r), (1, .int (nI k)), (3, .int (nI (by2 f p))), (4, .int 0)], [], M2)) (S2 := (34, [(4, .int 0), (3, .int (nI (by2 f p))), (0, .ref r), (1, .int (nI k)), (2, .int (nI t))], [], M2)) rfl rfl rfl (fun c_31 => ?_) (fun c_31 => ?_)
      · have c_31 : (nI t) = 7 := of_decide_eq_true c_31
        have n_31 : t = 7 := (eq_nI (p := t) (n := 7) (by omega) (by decide)).mp c_31
        refine ps_st (S' := (75, [(0, .ref r), (1, .int (nI k)), (3, .int (nI (by2 f p))), (4, .int 0)], [.ref r], M2)) rfl rfl rfl ?_
        refine ps_get (S' := (78, [(0, .ref r), (1, .int (nI k)), (3, .int (nI (by2 f p))), (4, .int 0)], [.ref c], M2)) rfl h4 rfl rfl ?_
        refine ps_get (S' := (81, [(0, .ref r), (1, .int (nI k)), (3, .int (nI (by2 f p))), (4, .int 0)], [.ref pq], M2)) rfl h10 rfl rfl ?_
        refine ps_st (S' := (82, [(0, .ref r), (1, .int (nI k)), (3, .int (nI (by2 f p))), (4, .int 0)], [.int (nI k), .ref pq], M2)) rfl rfl rfl ?_
        refine ps_st (S' := (83, [(0, .ref r), (1, .int (nI k)), (3, .int (nI (by2 f p))), (4, .int 0)], [.int (nI (by2 f p)), .int (nI k), .ref pq], M2)) rfl rfl rfl ?_
        refine ps_st (S' := (85, [(0, .ref r), (1, .int (nI k)), (3, .int (nI (by2 f p))), (4, .int 0)], [.int 0, .int (nI (by2 f p)), .int (nI k), .ref pq], M2)) rfl rfl rfl ?_
        refine pl_call (a := [.ref pq, .int (nI k), .int (nI (by2 f p)), .int 0]) (rest := []) rfl rfl rfl (dx_setNumbers h11 h12 h13 h14 (hD) (hh) (hk)) (fun v16 M17 q18 => ?_)
        obtain ⟨rfl, h19, h20, f21⟩ := q18
        have h23 := (f21.1 r (nin2 (ob_ar h4 h13) (ob_ar h4 h14))).trans h4
        have h24 := (f21.1 b (nin2 (ob_ar h8 h13) (ob_ar h8 h14))).trans h8
        have h25 := (f21.1 da (nin2 (ar_ne h9 h13 (by decide)) (ar_ne h9 h14 (by decide)))).trans h9
        have h26 := (f21.1 vd (nin2 (ob_ar h5 h13) (ob_ar h5 h14))).trans h5
        have h27 := (f21.1 c (nin2 (ob_ar h10 h13) (ob_ar h10 h14))).trans h10
        have h28 := (f21.1 pq (nin2 (ob_ar h11 h13) (ob_ar h11 h14))).trans h11
        have h29 := (f21.1 q1 (nin2 hD.1.2.1 hD.1.2.2.1)).trans h12
        have hF30 := hF15.tr f21 (by simp)
        show pl _ _ _ (88, [(0, .ref r), (1, .int (nI k)), (3, .int (nI (by2 f p))), (4, .int 0)], [], M17) _
        refine ps_st (S' := (89, [(0, .ref r), (1, .int (nI k)), (3, .int (nI (by2 f p))), (4, .int 0)], [.int 1], M17)) rfl rfl rfl ?_
        exact ps_ret rfl rfl (Or.inl ⟨p + 2, (by2 f p), 0, _, by
            unfold s_ix
            repeat' split
            all_goals first | rfl | (exfalso; omega), rfl, h23, h26, h19, h20, hF30⟩)
      · have c_31 : ¬ ((nI t) = 7) := of_decide_eq_false c_31
        have n_31 : ¬ (t = 7) := fun h9 => c_31 ((eq_nI (p := t) (n := 7) (by omega) (by decide)).mpr h9)
        refine ps_st (S' := (35, [(4, .int 0), (3, .int (nI (by2 f p))), (0, .ref r), (1, .int (nI k)), (2, .int (nI t))], [.int (nI t)], M2)) rfl rfl rfl ?_
        refine ps_st (S' := (37, [(4, .int 0), (3, .int (nI (by2 f p))), (0, .ref r), (1, .int (nI k)), (2, .int (nI t))], [.int 8, .int (nI t)], M2)) rfl rfl rfl ?_
        refine ps_if2 (S1 := (74, [(0, .ref r), (1, .int (nI k)), (3, .int (nI (by2 f p))), (4, .int 0)], [], M2)) (S2 := (40, [(4, .int 0), (3, .int (nI (by2 f p))), (0, .ref r), (1, .int (nI k)), (2, .int (nI t))], [], M2)) rfl rfl rfl (fun c_37 => ?_) (fun c_37 => ?_)
        · have c_37 : (nI t) = 8 := of_decide_eq_true c_37
          have n_37 : t = 8 := (eq_nI (p := t) (n := 8) (by omega) (by decide)).mp c_37
          refine ps_st (S' := (75, [(0, .ref r), (1, .int (nI k)), (3, .int (nI (by2 f p))), (4, .int 0)], [.ref r], M2)) rfl rfl rfl ?_
          refine ps_get (S' := (78, [(0, .ref r), (1, .int (nI k)), (3, .int (nI (by2 f p))), (4, .int 0)], [.ref c], M2)) rfl h4 rfl rfl ?_
          refine ps_get (S' := (81, [(0, .ref r), (1, .int (nI k)), (3, .int (nI (by2 f p))), (4, .int 0)], [.ref pq], M2)) rfl h10 rfl rfl ?_
          refine ps_st (S' := (82, [(0, .ref r), (1, .int (nI k)), (3, .int (nI (by2 f p))), (4, .int 0)], [.int (nI k), .ref pq], M2)) rfl rfl rfl ?_
          refine ps_st (S' := (83, [(0, .ref r), (1, .int (nI k)), (3, .int (nI (by2 f p))), (4, .int 0)], [.int (nI (by2 f p)), .int (nI k), .ref pq], M2)) rfl rfl rfl ?_
          refine ps_st (S' := (85, [(0, .ref r), (1, .int (nI k)), (3, .int (nI (by2 f p))), (4, .int 0)], [.int 0, .int (nI (by2 f p)), .int (nI k), .ref pq], M2)) rfl rfl rfl ?_
          refine pl_call (a := [.ref pq, .int (nI k), .int (nI (by2 f p)), .int 0]) (rest := []) rfl rfl rfl (dx_setNumbers h11 h12 h13 h14 (hD) (hh) (hk)) (fun v31 M32 q33 => ?_)
          obtain ⟨rfl, h34, h35, f36⟩ := q33
          have h38 := (f36.1 r (nin2 (ob_ar h4 h13) (ob_ar h4 h14))).trans h4
          have h39 := (f36.1 b (nin2 (ob_ar h8 h13) (ob_ar h8 h14))).trans h8
          have h40 := (f36.1 da (nin2 (ar_ne h9 h13 (by decide)) (ar_ne h9 h14 (by decide)))).trans h9
          have h41 := (f36.1 vd (nin2 (ob_ar h5 h13) (ob_ar h5 h14))).trans h5
          have h42 := (f36.1 c (nin2 (ob_ar h10 h13) (ob_ar h10 h14))).trans h10
          have h43 := (f36.1 pq (nin2 (ob_ar h11 h13) (ob_ar h11 h14))).trans h11
          have h44 := (f36.1 q1 (nin2 hD.1.2.1 hD.1.2.2.1)).trans h12
          have hF45 := hF15.tr f36 (by simp)
          show pl _ _ _ (88, [(0, .ref r), (1, .int (nI k)), (3, .int (nI (by2 f p))), (4, .int 0)], [], M32) _
          refine ps_st (S' := (89, [(0, .ref r), (1, .int (nI k)), (3, .int (nI (by2 f p))), (4, .int 0)], [.int 1], M32)) rfl rfl rfl ?_
          exact ps_ret rfl rfl (Or.inl ⟨p + 2, (by2 f p), 0, _, by
              unfold s_ix
              repeat' split
              all_goals first | rfl | (exfalso; omega), rfl, h38, h41, h34, h35, hF45⟩)
        · have c_37 : ¬ ((nI t) = 8) := of_decide_eq_false c_37
          have n_37 : ¬ (t = 8) := fun h9 => c_37 ((eq_nI (p := t) (n := 8) (by omega) (by decide)).mpr h9)
          refine ps_st (S' := (41, [(4, .int 0), (3, .int (nI (by2 f p))), (0, .ref r), (1, .int (nI k)), (2, .int (nI t))], [.int (nI t)], M2)) rfl rfl rfl ?_
          refine ps_st (S' := (43, [(4, .int 0), (3, .int (nI (by2 f p))), (0, .ref r), (1, .int (nI k)), (2, .int (nI t))], [.int 16, .int (nI t)], M2)) rfl rfl rfl ?_
          refine ps_if2 (S1 := (74, [(0, .ref r), (1, .int (nI k)), (3, .int (nI (by2 f p))), (4, .int 0)], [], M2)) (S2 := (46, [(4, .int 0), (3, .int (nI (by2 f p))), (0, .ref r), (1, .int (nI k)), (2, .int (nI t))], [], M2)) rfl rfl rfl (fun c_43 => ?_) (fun c_43 => ?_)
          · have c_43 : (nI t) = 16 := of_decide_eq_true c_43
            have n_43 : t = 16 := (eq_nI (p := t) (n := 16) (by omega) (by decide)).mp c_43
            refine ps_st (S' := (75, [(0, .ref r), (1, .int (nI k)), (3, .int (nI (by2 f p))), (4, .int 0)], [.ref r], M2)) rfl rfl rfl ?_
            refine ps_get (S' := (78, [(0, .ref r), (1, .int (nI k)), (3, .int (nI (by2 f p))), (4, .int 0)], [.ref c], M2)) rfl h4 rfl rfl ?_
            refine ps_get (S' := (81, [(0, .ref r), (1, .int (nI k)), (3, .int (nI (by2 f p))), (4, .int 0)], [.ref pq], M2)) rfl h10 rfl rfl ?_
            refine ps_st (S' := (82, [(0, .ref r), (1, .int (nI k)), (3, .int (nI (by2 f p))), (4, .int 0)], [.int (nI k), .ref pq], M2)) rfl rfl rfl ?_
            refine ps_st (S' := (83, [(0, .ref r), (1, .int (nI k)), (3, .int (nI (by2 f p))), (4, .int 0)], [.int (nI (by2 f p)), .int (nI k), .ref pq], M2)) rfl rfl rfl ?_
            refine ps_st (S' := (85, [(0, .ref r), (1, .int (nI k)), (3, .int (nI (by2 f p))), (4, .int 0)], [.int 0, .int (nI (by2 f p)), .int (nI k), .ref pq], M2)) rfl rfl rfl ?_
            refine pl_call (a := [.ref pq, .int (nI k), .int (nI (by2 f p)), .int 0]) (rest := []) rfl rfl rfl (dx_setNumbers h11 h12 h13 h14 (hD) (hh) (hk)) (fun v46 M47 q48 => ?_)
            obtain ⟨rfl, h49, h50, f51⟩ := q48
            have h53 := (f51.1 r (nin2 (ob_ar h4 h13) (ob_ar h4 h14))).trans h4
            have h54 := (f51.1 b (nin2 (ob_ar h8 h13) (ob_ar h8 h14))).trans h8
            have h55 := (f51.1 da (nin2 (ar_ne h9 h13 (by decide)) (ar_ne h9 h14 (by decide)))).trans h9
            have h56 := (f51.1 vd (nin2 (ob_ar h5 h13) (ob_ar h5 h14))).trans h5
            have h57 := (f51.1 c (nin2 (ob_ar h10 h13) (ob_ar h10 h14))).trans h10
            have h58 := (f51.1 pq (nin2 (ob_ar h11 h13) (ob_ar h11 h14))).trans h11
            have h59 := (f51.1 q1 (nin2 hD.1.2.1 hD.1.2.2.1)).trans h12
            have hF60 := hF15.tr f51 (by simp)
            show pl _ _ _ (88, [(0, .ref r), (1, .int (nI k)), (3, .int (nI (by2 f p))), (4, .int 0)], [], M47) _
            refine ps_st (S' := (89, [(0, .ref r), (1, .int (nI k)), (3, .int (nI (by2 f p))), (4, .int 0)], [.int 1], M47)) rfl rfl rfl ?_
            exact ps_ret rfl rfl (Or.inl ⟨p + 2, (by2 f p), 0, _, by
                unfold s_ix
                repeat' split
                all_goals first | rfl | (exfalso; omega), rfl, h53, h56, h49, h50, hF60⟩)
          · have c_43 : ¬ ((nI t) = 16) := of_decide_eq_false c_43
            have n_43 : ¬ (t = 16) := fun h9 => c_43 ((eq_nI (p := t) (n := 16) (by omega) (by decide)).mpr h9)
            refine ps_st (S' := (47, [(4, .int 0), (3, .int (nI (by2 f p))), (0, .ref r), (1, .int (nI k)), (2, .int (nI t))], [.int (nI t)], M2)) rfl rfl rfl ?_
            refine ps_st (S' := (49, [(4, .int 0), (3, .int (nI (by2 f p))), (0, .ref r), (1, .int (nI k)), (2, .int (nI t))], [.int 19, .int (nI t)], M2)) rfl rfl rfl ?_
            refine ps_if2 (S1 := (74, [(0, .ref r), (1, .int (nI k)), (3, .int (nI (by2 f p))), (4, .int 0)], [], M2)) (S2 := (52, [(4, .int 0), (3, .int (nI (by2 f p))), (0, .ref r), (1, .int (nI k)), (2, .int (nI t))], [], M2)) rfl rfl rfl (fun c_49 => ?_) (fun c_49 => ?_)
            · have c_49 : (nI t) = 19 := of_decide_eq_true c_49
              have n_49 : t = 19 := (eq_nI (p := t) (n := 19) (by omega) (by decide)).mp c_49
              refine ps_st (S' := (75, [(0, .ref r), (1, .int (nI k)), (3, .int (nI (by2 f p))), (4, .int 0)], [.ref r], M2)) rfl rfl rfl ?_
              refine ps_get (S' := (78, [(0, .ref r), (1, .int (nI k)), (3, .int (nI (by2 f p))), (4, .int 0)], [.ref c], M2)) rfl h4 rfl rfl ?_
              refine ps_get (S' := (81, [(0, .ref r), (1, .int (nI k)), (3, .int (nI (by2 f p))), (4, .int 0)], [.ref pq], M2)) rfl h10 rfl rfl ?_
              refine ps_st (S' := (82, [(0, .ref r), (1, .int (nI k)), (3, .int (nI (by2 f p))), (4, .int 0)], [.int (nI k), .ref pq], M2)) rfl rfl rfl ?_
              refine ps_st (S' := (83, [(0, .ref r), (1, .int (nI k)), (3, .int (nI (by2 f p))), (4, .int 0)], [.int (nI (by2 f p)), .int (nI k), .ref pq], M2)) rfl rfl rfl ?_
              refine ps_st (S' := (85, [(0, .ref r), (1, .int (nI k)), (3, .int (nI (by2 f p))), (4, .int 0)], [.int 0, .int (nI (by2 f p)), .int (nI k), .ref pq], M2)) rfl rfl rfl ?_
              refine pl_call (a := [.ref pq, .int (nI k), .int (nI (by2 f p)), .int 0]) (rest := []) rfl rfl rfl (dx_setNumbers h11 h12 h13 h14 (hD) (hh) (hk)) (fun v61 M62 q63 => ?_)
              obtain ⟨rfl, h64, h65, f66⟩ := q63
              have h68 := (f66.1 r (nin2 (ob_ar h4 h13) (ob_ar h4 h14))).trans h4
              have h69 := (f66.1 b (nin2 (ob_ar h8 h13) (ob_ar h8 h14))).trans h8
              have h70 := (f66.1 da (nin2 (ar_ne h9 h13 (by decide)) (ar_ne h9 h14 (by decide)))).trans h9
              have h71 := (f66.1 vd (nin2 (ob_ar h5 h13) (ob_ar h5 h14))).trans h5
              have h72 := (f66.1 c (nin2 (ob_ar h10 h13) (ob_ar h10 h14))).trans h10
              have h73 := (f66.1 pq (nin2 (ob_ar h11 h13) (ob_ar h11 h14))).trans h11
              have h74 := (f66.1 q1 (nin2 hD.1.2.1 hD.1.2.2.1)).trans h12
              have hF75 := hF15.tr f66 (by simp)
              show pl _ _ _ (88, [(0, .ref r), (1, .int (nI k)), (3, .int (nI (by2 f p))), (4, .int 0)], [], M62) _
              refine ps_st (S' := (89, [(0, .ref r), (1, .int (nI k)), (3, .int (nI (by2 f p))), (4, .int 0)], [.int 1], M62)) rfl rfl rfl ?_
              exact ps_ret rfl rfl (Or.inl ⟨p + 2, (by2 f p), 0, _, by
                  unfold s_ix
                  repeat' split
                  all_goals first | rfl | (exfalso; omega), rfl, h68, h71, h64, h65, hF75⟩)
            · have c_49 : ¬ ((nI t) = 19) := of_decide_eq_false c_49
              have n_49 : ¬ (t = 19) := fun h9 => c_49 ((eq_nI (p := t) (n := 19) (by omega) (by decide)).mpr h9)
              refine ps_st (S' := (53, [(4, .int 0), (3, .int (nI (by2 f p))), (0, .ref r), (1, .int (nI k)), (2, .int (nI t))], [.int (nI t)], M2)) rfl rfl rfl ?_
              refine ps_st (S' := (55, [(4, .int 0), (3, .int (nI (by2 f p))), (0, .ref r), (1, .int (nI k)), (2, .int (nI t))], [.int 20, .int (nI t)], M2)) rfl rfl rfl ?_
              refine ps_if2 (S1 := (74, [(0, .ref r), (1, .int (nI k)), (3, .int (nI (by2 f p))), (4, .int 0)], [], M2)) (S2 := (58, [(4, .int 0), (3, .int (nI (by2 f p))), (0, .ref r), (1, .int (nI k)), (2, .int (nI t))], [], M2)) rfl rfl rfl (fun c_55 => ?_) (fun c_55 => ?_)
              · have c_55 : (nI t) = 20 := of_decide_eq_true c_55
                have n_55 : t = 20 := (eq_nI (p := t) (n := 20) (by omega) (by decide)).mp c_55
                refine ps_st (S' := (75, [(0, .ref r), (1, .int (nI k)), (3, .int (nI (by2 f p))), (4, .int 0)], [.ref r], M2)) rfl rfl rfl ?_
                refine ps_get (S' := (78, [(0, .ref r), (1, .int (nI k)), (3, .int (nI (by2 f p))), (4, .int 0)], [.ref c], M2)) rfl h4 rfl rfl ?_
                refine ps_get (S' := (81, [(0, .ref r), (1, .int (nI k)), (3, .int (nI (by2 f p))), (4, .int 0)], [.ref pq], M2)) rfl h10 rfl rfl ?_
                refine ps_st (S' := (82, [(0, .ref r), (1, .int (nI k)), (3, .int (nI (by2 f p))), (4, .int 0)], [.int (nI k), .ref pq], M2)) rfl rfl rfl ?_
                refine ps_st (S' := (83, [(0, .ref r), (1, .int (nI k)), (3, .int (nI (by2 f p))), (4, .int 0)], [.int (nI (by2 f p)), .int (nI k), .ref pq], M2)) rfl rfl rfl ?_
                refine ps_st (S' := (85, [(0, .ref r), (1, .int (nI k)), (3, .int (nI (by2 f p))), (4, .int 0)], [.int 0, .int (nI (by2 f p)), .int (nI k), .ref pq], M2)) rfl rfl rfl ?_
                refine pl_call (a := [.ref pq, .int (nI k), .int (nI (by2 f p)), .int 0]) (rest := []) rfl rfl rfl (dx_setNumbers h11 h12 h13 h14 (hD) (hh) (hk)) (fun v76 M77 q78 => ?_)
                obtain ⟨rfl, h79, h80, f81⟩ := q78
                have h83 := (f81.1 r (nin2 (ob_ar h4 h13) (ob_ar h4 h14))).trans h4
                have h84 := (f81.1 b (nin2 (ob_ar h8 h13) (ob_ar h8 h14))).trans h8
                have h85 := (f81.1 da (nin2 (ar_ne h9 h13 (by decide)) (ar_ne h9 h14 (by decide)))).trans h9
                have h86 := (f81.1 vd (nin2 (ob_ar h5 h13) (ob_ar h5 h14))).trans h5
                have h87 := (f81.1 c (nin2 (ob_ar h10 h13) (ob_ar h10 h14))).trans h10
                have h88 := (f81.1 pq (nin2 (ob_ar h11 h13) (ob_ar h11 h14))).trans h11
                have h89 := (f81.1 q1 (nin2 hD.1.2.1 hD.1.2.2.1)).trans h12
                have hF90 := hF15.tr f81 (by simp)
                show pl _ _ _ (88, [(0, .ref r), (1, .int (nI k)), (3, .int (nI (by2 f p))), (4, .int 0)], [], M77) _
                refine ps_st (S' := (89, [(0, .ref r), (1, .int (nI k)), (3, .int (nI (by2 f p))), (4, .int 0)], [.int 1], M77)) rfl rfl rfl ?_
                exact ps_ret rfl rfl (Or.inl ⟨p + 2, (by2 f p), 0, _, by
                    unfold s_ix
                    repeat' split
                    all_goals first | rfl | (exfalso; omega), rfl, h83, h86, h79, h80, hF90⟩)
              · have c_55 : ¬ ((nI t) = 20) := of_decide_eq_false c_55
                have n_55 : ¬ (t = 20) := fun h9 => c_55 ((eq_nI (p := t) (n := 20) (by omega) (by decide)).mpr h9)
                refine ps_st (S' := (59, [(4, .int 0), (3, .int (nI (by2 f p))), (0, .ref r), (1, .int (nI k)), (2, .int (nI t))], [.ref r], M2)) rfl rfl rfl ?_
                refine ps_st (S' := (60, [(4, .int 0), (3, .int (nI (by2 f p))), (0, .ref r), (1, .int (nI k)), (2, .int (nI t))], [.int 2, .ref r], M2)) rfl rfl rfl ?_
                refine pl_call (a := [.ref r, .int 2]) (rest := []) rfl rfl rfl (dx_takes2 h4 h8 h9 h5 (hn) (by omega)) (fun v91 M92 q93 => ?_)
                rcases q93 with q93 | q93
                · skip
                  obtain ⟨q60_ok, rfl, h94, h95, f96⟩ := q93
                  have h98 := (f96.1 b (nin2 (ob_ne h8 h4 (by decide)) (ob_ne h8 h5 (by decide)))).trans h8
                  have h99 := (f96.1 da (nin2 (Ne.symm (ob_ar h4 h9)) (Ne.symm (ob_ar h5 h9)))).trans h9
                  have h100 := (f96.1 c (nin2 (ob_ne h10 h4 (by decide)) (ob_ne h10 h5 (by decide)))).trans h10
                  have h101 := (f96.1 pq (nin2 (ob_ne h11 h4 (by decide)) (ob_ne h11 h5 (by decide)))).trans h11
                  have h102 := (f96.1 q1 (nin2 (Ne.symm (ob_ar h4 h12)) (Ne.symm (ob_ar h5 h12)))).trans h12
                  have h103 := (f96.1 q3 (nin2 (Ne.symm (ob_ar h4 h13)) (Ne.symm (ob_ar h5 h13)))).trans h13
                  have h104 := (f96.1 q4 (nin2 (Ne.symm (ob_ar h4 h14)) (Ne.symm (ob_ar h5 h14)))).trans h14
                  have hF105 := hF15.tr f96 (by simp)
                  show pl _ _ _ (63, [(4, .int 0), (3, .int (nI (by2 f p))), (0, .ref r), (1, .int (nI k)), (2, .int (nI t))], [.int 1], M92) _
                  refine ps_if (S1 := (68, [(4, .int 0), (3, .int (nI (by2 f p))), (0, .ref r), (1, .int (nI k)), (2, .int (nI t))], [], M92)) (S2 := (66, [(4, .int 0), (3, .int (nI (by2 f p))), (0, .ref r), (1, .int (nI k)), (2, .int (nI t))], [], M92)) rfl rfl rfl (fun c_63 => ?_) (fun c_63 => ?_)
                  rotate_left
                  · exact absurd (by decide) (of_decide_eq_false c_63)
                  refine ps_st (S' := (69, [(4, .int 0), (3, .int (nI (by2 f p))), (0, .ref r), (1, .int (nI k)), (2, .int (nI t))], [.ref r], M92)) rfl rfl rfl ?_
                  refine ps_get (S' := (72, [(4, .int 0), (3, .int (nI (by2 f p))), (0, .ref r), (1, .int (nI k)), (2, .int (nI t))], [.int (nI (by2 f (p + 2)))], M92)) rfl h94 rfl rfl ?_
                  refine ps_st (S' := (74, [(0, .ref r), (1, .int (nI k)), (3, .int (nI (by2 f p))), (4, .int (nI (by2 f (p + 2))))], [], M92)) rfl rfl rfl ?_
                  refine ps_st (S' := (75, [(0, .ref r), (1, .int (nI k)), (3, .int (nI (by2 f p))), (4, .int (nI (by2 f (p + 2))))], [.ref r], M92)) rfl rfl rfl ?_
                  refine ps_get (S' := (78, [(0, .ref r), (1, .int (nI k)), (3, .int (nI (by2 f p))), (4, .int (nI (by2 f (p + 2))))], [.ref c], M92)) rfl h94 rfl rfl ?_
                  refine ps_get (S' := (81, [(0, .ref r), (1, .int (nI k)), (3, .int (nI (by2 f p))), (4, .int (nI (by2 f (p + 2))))], [.ref pq], M92)) rfl h100 rfl rfl ?_
                  refine ps_st (S' := (82, [(0, .ref r), (1, .int (nI k)), (3, .int (nI (by2 f p))), (4, .int (nI (by2 f (p + 2))))], [.int (nI k), .ref pq], M92)) rfl rfl rfl ?_
                  refine ps_st (S' := (83, [(0, .ref r), (1, .int (nI k)), (3, .int (nI (by2 f p))), (4, .int (nI (by2 f (p + 2))))], [.int (nI (by2 f p)), .int (nI k), .ref pq], M92)) rfl rfl rfl ?_
                  refine ps_st (S' := (85, [(0, .ref r), (1, .int (nI k)), (3, .int (nI (by2 f p))), (4, .int (nI (by2 f (p + 2))))], [.int (nI (by2 f (p + 2))), .int (nI (by2 f p)), .int (nI k), .ref pq], M92)) rfl rfl rfl ?_
                  refine pl_call (a := [.ref pq, .int (nI k), .int (nI (by2 f p)), .int (nI (by2 f (p + 2)))]) (rest := []) rfl rfl rfl (dx_setNumbers h101 h102 h103 h104 (hD) (hh) (hk)) (fun v106 M107 q108 => ?_)
                  obtain ⟨rfl, h109, h110, f111⟩ := q108
                  have h113 := (f111.1 r (nin2 (ob_ar h94 h103) (ob_ar h94 h104))).trans h94
                  have h114 := (f111.1 b (nin2 (ob_ar h98 h103) (ob_ar h98 h104))).trans h98
                  have h115 := (f111.1 da (nin2 (ar_ne h99 h103 (by decide)) (ar_ne h99 h104 (by decide)))).trans h99
                  have h116 := (f111.1 vd (nin2 (ob_ar h95 h103) (ob_ar h95 h104))).trans h95
                  have h117 := (f111.1 c (nin2 (ob_ar h100 h103) (ob_ar h100 h104))).trans h100
                  have h118 := (f111.1 pq (nin2 (ob_ar h101 h103) (ob_ar h101 h104))).trans h101
                  have h119 := (f111.1 q1 (nin2 hD.1.2.1 hD.1.2.2.1)).trans h102
                  have hF120 := hF105.tr f111 (by simp)
                  show pl _ _ _ (88, [(0, .ref r), (1, .int (nI k)), (3, .int (nI (by2 f p))), (4, .int (nI (by2 f (p + 2))))], [], M107) _
                  refine ps_st (S' := (89, [(0, .ref r), (1, .int (nI k)), (3, .int (nI (by2 f p))), (4, .int (nI (by2 f (p + 2))))], [.int 1], M107)) rfl rfl rfl ?_
                  exact ps_ret rfl rfl (Or.inl ⟨p + 4, (by2 f p), by2 f (p + 2), _, by
                      unfold s_ix
                      repeat' split
                      all_goals first | rfl | (exfalso; omega), rfl, h113, h116, h109, h110, hF120⟩)
                · skip
                  obtain ⟨q60_no, rfl, h121, h122, f123⟩ := q93
                  have h125 := (f123.1 b (nin2 (ob_ne h8 h4 (by decide)) (ob_ne h8 h5 (by decide)))).trans h8
                  have h126 := (f123.1 da (nin2 (Ne.symm (ob_ar h4 h9)) (Ne.symm (ob_ar h5 h9)))).trans h9
                  have h127 := (f123.1 c (nin2 (ob_ne h10 h4 (by decide)) (ob_ne h10 h5 (by decide)))).trans h10
                  have h128 := (f123.1 pq (nin2 (ob_ne h11 h4 (by decide)) (ob_ne h11 h5 (by decide)))).trans h11
                  have h129 := (f123.1 q1 (nin2 (Ne.symm (ob_ar h4 h12)) (Ne.symm (ob_ar h5 h12)))).trans h12
                  have h130 := (f123.1 q3 (nin2 (Ne.symm (ob_ar h4 h13)) (Ne.symm (ob_ar h5 h13)))).trans h13
                  have h131 := (f123.1 q4 (nin2 (Ne.symm (ob_ar h4 h14)) (Ne.symm (ob_ar h5 h14)))).trans h14
                  have hF132 := hF15.tr f123 (by simp)
                  show pl _ _ _ (63, [(4, .int 0), (3, .int (nI (by2 f p))), (0, .ref r), (1, .int (nI k)), (2, .int (nI t))], [.int 0], M92) _
                  refine ps_if (S1 := (68, [(4, .int 0), (3, .int (nI (by2 f p))), (0, .ref r), (1, .int (nI k)), (2, .int (nI t))], [], M92)) (S2 := (66, [(4, .int 0), (3, .int (nI (by2 f p))), (0, .ref r), (1, .int (nI k)), (2, .int (nI t))], [], M92)) rfl rfl rfl (fun c_63 => ?_) (fun c_63 => ?_)
                  · exact absurd (of_decide_eq_true c_63) (by decide)
                  refine ps_st (S' := (67, [(4, .int 0), (3, .int (nI (by2 f p))), (0, .ref r), (1, .int (nI k)), (2, .int (nI t))], [.int 0], M92)) rfl rfl rfl ?_
                  exact ps_ret rfl rfl (Or.inr ⟨(1, p + 2), by
                      unfold s_ix
                      repeat' split
                      all_goals first | rfl | (exfalso; omega), rfl, h122, hF132⟩)
    · skip
      obtain ⟨q12_no, rfl, h133, h134, f135⟩ := q3
      have h137 := (f135.1 b (nin2 (ob_ne h_b h_r (by decide)) (ob_ne h_b h_vd (by decide)))).trans h_b
      have h138 := (f135.1 da (nin2 (Ne.symm (ob_ar h_r h_da)) (Ne.symm (ob_ar h_vd h_da)))).trans h_da
      have h139 := (f135.1 c (nin2 (ob_ne h_c h_r (by decide)) (ob_ne h_c h_vd (by decide)))).trans h_c
      have h140 := (f135.1 pq (nin2 (ob_ne h_pq h_r (by decide)) (ob_ne h_pq h_vd (by decide)))).trans h_pq
      have h141 := (f135.1 q1 (nin2 (Ne.symm (ob_ar h_r h_q1)) (Ne.symm (ob_ar h_vd h_q1)))).trans h_q1
      have h142 := (f135.1 q3 (nin2 (Ne.symm (ob_ar h_r h_q3)) (Ne.symm (ob_ar h_vd h_q3)))).trans h_q3
      have h143 := (f135.1 q4 (nin2 (Ne.symm (ob_ar h_r h_q4)) (Ne.symm (ob_ar h_vd h_q4)))).trans h_q4
      have hF144 := hF.tr f135 (by simp)
      show pl _ _ _ (15, [(0, .ref r), (1, .int (nI k)), (2, .int (nI t))], [.int 0], M2) _
      refine ps_if (S1 := (20, [(0, .ref r), (1, .int (nI k)), (2, .int (nI t))], [], M2)) (S2 := (18, [(0, .ref r), (1, .int (nI k)), (2, .int (nI t))], [], M2)) rfl rfl rfl (fun c_15 => ?_) (fun c_15 => ?_)
      · exact absurd (of_decide_eq_true c_15) (by decide)
      refine ps_st (S' := (19, [(0, .ref r), (1, .int (nI k)), (2, .int (nI t))], [.int 0], M2)) rfl rfl rfl ?_
      exact ps_ret rfl rfl (Or.inr ⟨(1, p), by
          unfold s_ix
          repeat' split
          all_goals first | rfl | (exfalso; omega), rfl, h134, hF144⟩)
  · have c_4 : ¬ (¬ (nI t) = 15) := of_decide_eq_false c_4
    have n_4 : t = 15 := (eq_nI (p := t) (n := 15) (by omega) (by decide)).mp (Decidable.not_not.mp c_4)
    refine ps_st (S' := (8, [(0, .ref r), (1, .int (nI k)), (2, .int (nI t))], [.int 1, .ref r], M)) rfl rfl rfl ?_
    refine ps_st (S' := (12, [(0, .ref r), (1, .int (nI k)), (2, .int (nI t))], [.int 1, .ref r], M)) rfl rfl rfl ?_
    refine pl_call (a := [.ref r, .int 1]) (rest := []) rfl rfl rfl (dx_takes1 h_r h_b h_da h_vd (hn) (by omega)) (fun v145 M146 q147 => ?_)
    rcases q147 with q147 | q147
    · skip
      obtain ⟨q12_ok, rfl, h148, h149, f150⟩ := q147
      have h152 := (f150.1 b (nin2 (ob_ne h_b h_r (by decide)) (ob_ne h_b h_vd (by decide)))).trans h_b
      have h153 := (f150.1 da (nin2 (Ne.symm (ob_ar h_r h_da)) (Ne.symm (ob_ar h_vd h_da)))).trans h_da
      have h154 := (f150.1 c (nin2 (ob_ne h_c h_r (by decide)) (ob_ne h_c h_vd (by decide)))).trans h_c
      have h155 := (f150.1 pq (nin2 (ob_ne h_pq h_r (by decide)) (ob_ne h_pq h_vd (by decide)))).trans h_pq
      have h156 := (f150.1 q1 (nin2 (Ne.symm (ob_ar h_r h_q1)) (Ne.symm (ob_ar h_vd h_q1)))).trans h_q1
      have h157 := (f150.1 q3 (nin2 (Ne.symm (ob_ar h_r h_q3)) (Ne.symm (ob_ar h_vd h_q3)))).trans h_q3
      have h158 := (f150.1 q4 (nin2 (Ne.symm (ob_ar h_r h_q4)) (Ne.symm (ob_ar h_vd h_q4)))).trans h_q4
      have hF159 := hF.tr f150 (by simp)
      show pl _ _ _ (15, [(0, .ref r), (1, .int (nI k)), (2, .int (nI t))], [.int 1], M146) _
      refine ps_if (S1 := (20, [(0, .ref r), (1, .int (nI k)), (2, .int (nI t))], [], M146)) (S2 := (18, [(0, .ref r), (1, .int (nI k)), (2, .int (nI t))], [], M146)) rfl rfl rfl (fun c_15 => ?_) (fun c_15 => ?_)
      rotate_left
      · exact absurd (by decide) (of_decide_eq_false c_15)
      refine ps_st (S' := (21, [(0, .ref r), (1, .int (nI k)), (2, .int (nI t))], [.ref r], M146)) rfl rfl rfl ?_
      refine ps_get (S' := (24, [(0, .ref r), (1, .int (nI k)), (2, .int (nI t))], [.int (nI (by1 f p))], M146)) rfl h148 rfl rfl ?_
      refine ps_st (S' := (25, [(3, .int (nI (by1 f p))), (0, .ref r), (1, .int (nI k)), (2, .int (nI t))], [], M146)) rfl rfl rfl ?_
      refine ps_st (S' := (26, [(3, .int (nI (by1 f p))), (0, .ref r), (1, .int (nI k)), (2, .int (nI t))], [.int 0], M146)) rfl rfl rfl ?_
      refine ps_st (S' := (28, [(4, .int 0), (3, .int (nI (by1 f p))), (0, .ref r), (1, .int (nI k)), (2, .int (nI t))], [], M146)) rfl rfl rfl ?_
      refine ps_st (S' := (29, [(4, .int 0), (3, .int (nI (by1 f p))), (0, .ref r), (1, .int (nI k)), (2, .int (nI t))], [.int (nI t)], M146)) rfl rfl rfl ?_
      refine ps_st (S' := (31, [(4, .int 0), (3, .int (nI (by1 f p))), (0, .ref r), (1, .int (nI k)), (2, .int (nI t))], [.int 7, .int (nI t)], M146)) rfl rfl rfl ?_
      refine ps_if2 (S1 := (74, [(0, .ref r), (1, .int (nI k)), (3, .int (nI (by1 f p))), (4, .int 0)], [], M146)) (S2 := (34, [(4, .int 0), (3, .int (nI (by1 f p))), (0, .ref r), (1, .int (nI k)), (2, .int (nI t))], [], M146)) rfl rfl rfl (fun c_31 => ?_) (fun c_31 => ?_)
      · have c_31 : (nI t) = 7 := of_decide_eq_true c_31
        have n_31 : t = 7 := (eq_nI (p := t) (n := 7) (by omega) (by decide)).mp c_31
        refine ps_st (S' := (75, [(0, .ref r), (1, .int (nI k)), (3, .int (nI (by1 f p))), (4, .int 0)], [.ref r], M146)) rfl rfl rfl ?_
        refine ps_get (S' := (78, [(0, .ref r), (1, .int (nI k)), (3, .int (nI (by1 f p))), (4, .int 0)], [.ref c], M146)) rfl h148 rfl rfl ?_
        refine ps_get (S' := (81, [(0, .ref r), (1, .int (nI k)), (3, .int (nI (by1 f p))), (4, .int 0)], [.ref pq], M146)) rfl h154 rfl rfl ?_
        refine ps_st (S' := (82, [(0, .ref r), (1, .int (nI k)), (3, .int (nI (by1 f p))), (4, .int 0)], [.int (nI k), .ref pq], M146)) rfl rfl rfl ?_
        refine ps_st (S' := (83, [(0, .ref r), (1, .int (nI k)), (3, .int (nI (by1 f p))), (4, .int 0)], [.int (nI (by1 f p)), .int (nI k), .ref pq], M146)) rfl rfl rfl ?_
        refine ps_st (S' := (85, [(0, .ref r), (1, .int (nI k)), (3, .int (nI (by1 f p))), (4, .int 0)], [.int 0, .int (nI (by1 f p)), .int (nI k), .ref pq], M146)) rfl rfl rfl ?_
        refine pl_call (a := [.ref pq, .int (nI k), .int (nI (by1 f p)), .int 0]) (rest := []) rfl rfl rfl (dx_setNumbers h155 h156 h157 h158 (hD) (hh) (hk)) (fun v160 M161 q162 => ?_)
        obtain ⟨rfl, h163, h164, f165⟩ := q162
        have h167 := (f165.1 r (nin2 (ob_ar h148 h157) (ob_ar h148 h158))).trans h148
        have h168 := (f165.1 b (nin2 (ob_ar h152 h157) (ob_ar h152 h158))).trans h152
        have h169 := (f165.1 da (nin2 (ar_ne h153 h157 (by decide)) (ar_ne h153 h158 (by decide)))).trans h153
        have h170 := (f165.1 vd (nin2 (ob_ar h149 h157) (ob_ar h149 h158))).trans h149
        have h171 := (f165.1 c (nin2 (ob_ar h154 h157) (ob_ar h154 h158))).trans h154
        have h172 := (f165.1 pq (nin2 (ob_ar h155 h157) (ob_ar h155 h158))).trans h155
        have h173 := (f165.1 q1 (nin2 hD.1.2.1 hD.1.2.2.1)).trans h156
        have hF174 := hF159.tr f165 (by simp)
        show pl _ _ _ (88, [(0, .ref r), (1, .int (nI k)), (3, .int (nI (by1 f p))), (4, .int 0)], [], M161) _
        refine ps_st (S' := (89, [(0, .ref r), (1, .int (nI k)), (3, .int (nI (by1 f p))), (4, .int 0)], [.int 1], M161)) rfl rfl rfl ?_
        exact ps_ret rfl rfl (Or.inl ⟨p + 1, (by1 f p), 0, _, by
            unfold s_ix
            repeat' split
            all_goals first | rfl | (exfalso; omega), rfl, h167, h170, h163, h164, hF174⟩)
      · have c_31 : ¬ ((nI t) = 7) := of_decide_eq_false c_31
        have n_31 : ¬ (t = 7) := fun h9 => c_31 ((eq_nI (p := t) (n := 7) (by omega) (by decide)).mpr h9)
        refine ps_st (S' := (35, [(4, .int 0), (3, .int (nI (by1 f p))), (0, .ref r), (1, .int (nI k)), (2, .int (nI t))], [.int (nI t)], M146)) rfl rfl rfl ?_
        refine ps_st (S' := (37, [(4, .int 0), (3, .int (nI (by1 f p))), (0, .ref r), (1, .int (nI k)), (2, .int (nI t))], [.int 8, .int (nI t)], M146)) rfl rfl rfl ?_
        refine ps_if2 (S1 := (74, [(0, .ref r), (1, .int (nI k)), (3, .int (nI (by1 f p))), (4, .int 0)], [], M146)) (S2 := (40, [(4, .int 0), (3, .int (nI (by1 f p))), (0, .ref r), (1, .int (nI k)), (2, .int (nI t))], [], M146)) rfl rfl rfl (fun c_37 => ?_) (fun c_37 => ?_)
        · have c_37 : (nI t) = 8 := of_decide_eq_true c_37
          have n_37 : t = 8 := (eq_nI (p := t) (n := 8) (by omega) (by decide)).mp c_37
          refine ps_st (S' := (75, [(0, .ref r), (1, .int (nI k)), (3, .int (nI (by1 f p))), (4, .int 0)], [.ref r], M146)) rfl rfl rfl ?_
          refine ps_get (S' := (78, [(0, .ref r), (1, .int (nI k)), (3, .int (nI (by1 f p))), (4, .int 0)], [.ref c], M146)) rfl h148 rfl rfl ?_
          refine ps_get (S' := (81, [(0, .ref r), (1, .int (nI k)), (3, .int (nI (by1 f p))), (4, .int 0)], [.ref pq], M146)) rfl h154 rfl rfl ?_
          refine ps_st (S' := (82, [(0, .ref r), (1, .int (nI k)), (3, .int (nI (by1 f p))), (4, .int 0)], [.int (nI k), .ref pq], M146)) rfl rfl rfl ?_
          refine ps_st (S' := (83, [(0, .ref r), (1, .int (nI k)), (3, .int (nI (by1 f p))), (4, .int 0)], [.int (nI (by1 f p)), .int (nI k), .ref pq], M146)) rfl rfl rfl ?_
          refine ps_st (S' := (85, [(0, .ref r), (1, .int (nI k)), (3, .int (nI (by1 f p))), (4, .int 0)], [.int 0, .int (nI (by1 f p)), .int (nI k), .ref pq], M146)) rfl rfl rfl ?_
          refine pl_call (a := [.ref pq, .int (nI k), .int (nI (by1 f p)), .int 0]) (rest := []) rfl rfl rfl (dx_setNumbers h155 h156 h157 h158 (hD) (hh) (hk)) (fun v175 M176 q177 => ?_)
          obtain ⟨rfl, h178, h179, f180⟩ := q177
          have h182 := (f180.1 r (nin2 (ob_ar h148 h157) (ob_ar h148 h158))).trans h148
          have h183 := (f180.1 b (nin2 (ob_ar h152 h157) (ob_ar h152 h158))).trans h152
          have h184 := (f180.1 da (nin2 (ar_ne h153 h157 (by decide)) (ar_ne h153 h158 (by decide)))).trans h153
          have h185 := (f180.1 vd (nin2 (ob_ar h149 h157) (ob_ar h149 h158))).trans h149
          have h186 := (f180.1 c (nin2 (ob_ar h154 h157) (ob_ar h154 h158))).trans h154
          have h187 := (f180.1 pq (nin2 (ob_ar h155 h157) (ob_ar h155 h158))).trans h155
          have h188 := (f180.1 q1 (nin2 hD.1.2.1 hD.1.2.2.1)).trans h156
          have hF189 := hF159.tr f180 (by simp)
          show pl _ _ _ (88, [(0, .ref r), (1, .int (nI k)), (3, .int (nI (by1 f p))), (4, .int 0)], [], M176) _
          refine ps_st (S' := (89, [(0, .ref r), (1, .int (nI k)), (3, .int (nI (by1 f p))), (4, .int 0)], [.int 1], M176)) rfl rfl rfl ?_
          exact ps_ret rfl rfl (Or.inl ⟨p + 1, (by1 f p), 0, _, by
              unfold s_ix
              repeat' split
              all_goals first | rfl | (exfalso; omega), rfl, h182, h185, h178, h179, hF189⟩)
        · have c_37 : ¬ ((nI t) = 8) := of_decide_eq_false c_37
          have n_37 : ¬ (t = 8) := fun h9 => c_37 ((eq_nI (p := t) (n := 8) (by omega) (by decide)).mpr h9)
          refine ps_st (S' := (41, [(4, .int 0), (3, .int (nI (by1 f p))), (0, .ref r), (1, .int (nI k)), (2, .int (nI t))], [.int (nI t)], M146)) rfl rfl rfl ?_
          refine ps_st (S' := (43, [(4, .int 0), (3, .int (nI (by1 f p))), (0, .ref r), (1, .int (nI k)), (2, .int (nI t))], [.int 16, .int (nI t)], M146)) rfl rfl rfl ?_
          refine ps_if2 (S1 := (74, [(0, .ref r), (1, .int (nI k)), (3, .int (nI (by1 f p))), (4, .int 0)], [], M146)) (S2 := (46, [(4, .int 0), (3, .int (nI (by1 f p))), (0, .ref r), (1, .int (nI k)), (2, .int (nI t))], [], M146)) rfl rfl rfl (fun c_43 => ?_) (fun c_43 => ?_)
          · have c_43 : (nI t) = 16 := of_decide_eq_true c_43
            have n_43 : t = 16 := (eq_nI (p := t) (n := 16) (by omega) (by decide)).mp c_43
            refine ps_st (S' := (75, [(0, .ref r), (1, .int (nI k)), (3, .int (nI (by1 f p))), (4, .int 0)], [.ref r], M146)) rfl rfl rfl ?_
            refine ps_get (S' := (78, [(0, .ref r), (1, .int (nI k)), (3, .int (nI (by1 f p))), (4, .int 0)], [.ref c], M146)) rfl h148 rfl rfl ?_
            refine ps_get (S' := (81, [(0, .ref r), (1, .int (nI k)), (3, .int (nI (by1 f p))), (4, .int 0)], [.ref pq], M146)) rfl h154 rfl rfl ?_
            refine ps_st (S' := (82, [(0, .ref r), (1, .int (nI k)), (3, .int (nI (by1 f p))), (4, .int 0)], [.int (nI k), .ref pq], M146)) rfl rfl rfl ?_
            refine ps_st (S' := (83, [(0, .ref r), (1, .int (nI k)), (3, .int (nI (by1 f p))), (4, .int 0)], [.int (nI (by1 f p)), .int (nI k), .ref pq], M146)) rfl rfl rfl ?_
            refine ps_st (S' := (85, [(0, .ref r), (1, .int (nI k)), (3, .int (nI (by1 f p))), (4, .int 0)], [.int 0, .int (nI (by1 f p)), .int (nI k), .ref pq], M146)) rfl rfl rfl ?_
            refine pl_call (a := [.ref pq, .int (nI k), .int (nI (by1 f p)), .int 0]) (rest := []) rfl rfl rfl (dx_setNumbers h155 h156 h157 h158 (hD) (hh) (hk)) (fun v190 M191 q192 => ?_)
            obtain ⟨rfl, h193, h194, f195⟩ := q192
            have h197 := (f195.1 r (nin2 (ob_ar h148 h157) (ob_ar h148 h158))).trans h148
            have h198 := (f195.1 b (nin2 (ob_ar h152 h157) (ob_ar h152 h158))).trans h152
            have h199 := (f195.1 da (nin2 (ar_ne h153 h157 (by decide)) (ar_ne h153 h158 (by decide)))).trans h153
            have h200 := (f195.1 vd (nin2 (ob_ar h149 h157) (ob_ar h149 h158))).trans h149
            have h201 := (f195.1 c (nin2 (ob_ar h154 h157) (ob_ar h154 h158))).trans h154
            have h202 := (f195.1 pq (nin2 (ob_ar h155 h157) (ob_ar h155 h158))).trans h155
            have h203 := (f195.1 q1 (nin2 hD.1.2.1 hD.1.2.2.1)).trans h156
            have hF204 := hF159.tr f195 (by simp)
            show pl _ _ _ (88, [(0, .ref r), (1, .int (nI k)), (3, .int (nI (by1 f p))), (4, .int 0)], [], M191) _
            refine ps_st (S' := (89, [(0, .ref r), (1, .int (nI k)), (3, .int (nI (by1 f p))), (4, .int 0)], [.int 1], M191)) rfl rfl rfl ?_
            exact ps_ret rfl rfl (Or.inl ⟨p + 1, (by1 f p), 0, _, by
                unfold s_ix
                repeat' split
                all_goals first | rfl | (exfalso; omega), rfl, h197, h200, h193, h194, hF204⟩)
          · have c_43 : ¬ ((nI t) = 16) := of_decide_eq_false c_43
            have n_43 : ¬ (t = 16) := fun h9 => c_43 ((eq_nI (p := t) (n := 16) (by omega) (by decide)).mpr h9)
            refine ps_st (S' := (47, [(4, .int 0), (3, .int (nI (by1 f p))), (0, .ref r), (1, .int (nI k)), (2, .int (nI t))], [.int (nI t)], M146)) rfl rfl rfl ?_
            refine ps_st (S' := (49, [(4, .int 0), (3, .int (nI (by1 f p))), (0, .ref r), (1, .int (nI k)), (2, .int (nI t))], [.int 19, .int (nI t)], M146)) rfl rfl rfl ?_
            refine ps_if2 (S1 := (74, [(0, .ref r), (1, .int (nI k)), (3, .int (nI (by1 f p))), (4, .int 0)], [], M146)) (S2 := (52, [(4, .int 0), (3, .int (nI (by1 f p))), (0, .ref r), (1, .int (nI k)), (2, .int (nI t))], [], M146)) rfl rfl rfl (fun c_49 => ?_) (fun c_49 => ?_)
            · have c_49 : (nI t) = 19 := of_decide_eq_true c_49
              have n_49 : t = 19 := (eq_nI (p := t) (n := 19) (by omega) (by decide)).mp c_49
              refine ps_st (S' := (75, [(0, .ref r), (1, .int (nI k)), (3, .int (nI (by1 f p))), (4, .int 0)], [.ref r], M146)) rfl rfl rfl ?_
              refine ps_get (S' := (78, [(0, .ref r), (1, .int (nI k)), (3, .int (nI (by1 f p))), (4, .int 0)], [.ref c], M146)) rfl h148 rfl rfl ?_
              refine ps_get (S' := (81, [(0, .ref r), (1, .int (nI k)), (3, .int (nI (by1 f p))), (4, .int 0)], [.ref pq], M146)) rfl h154 rfl rfl ?_
              refine ps_st (S' := (82, [(0, .ref r), (1, .int (nI k)), (3, .int (nI (by1 f p))), (4, .int 0)], [.int (nI k), .ref pq], M146)) rfl rfl rfl ?_
              refine ps_st (S' := (83, [(0, .ref r), (1, .int (nI k)), (3, .int (nI (by1 f p))), (4, .int 0)], [.int (nI (by1 f p)), .int (nI k), .ref pq], M146)) rfl rfl rfl ?_
              refine ps_st (S' := (85, [(0, .ref r), (1, .int (nI k)), (3, .int (nI (by1 f p))), (4, .int 0)], [.int 0, .int (nI (by1 f p)), .int (nI k), .ref pq], M146)) rfl rfl rfl ?_
              refine pl_call (a := [.ref pq, .int (nI k), .int (nI (by1 f p)), .int 0]) (rest := []) rfl rfl rfl (dx_setNumbers h155 h156 h157 h158 (hD) (hh) (hk)) (fun v205 M206 q207 => ?_)
              obtain ⟨rfl, h208, h209, f210⟩ := q207
              have h212 := (f210.1 r (nin2 (ob_ar h148 h157) (ob_ar h148 h158))).trans h148
              have h213 := (f210.1 b (nin2 (ob_ar h152 h157) (ob_ar h152 h158))).trans h152
              have h214 := (f210.1 da (nin2 (ar_ne h153 h157 (by decide)) (ar_ne h153 h158 (by decide)))).trans h153
              have h215 := (f210.1 vd (nin2 (ob_ar h149 h157) (ob_ar h149 h158))).trans h149
              have h216 := (f210.1 c (nin2 (ob_ar h154 h157) (ob_ar h154 h158))).trans h154
              have h217 := (f210.1 pq (nin2 (ob_ar h155 h157) (ob_ar h155 h158))).trans h155
              have h218 := (f210.1 q1 (nin2 hD.1.2.1 hD.1.2.2.1)).trans h156
              have hF219 := hF159.tr f210 (by simp)
              show pl _ _ _ (88, [(0, .ref r), (1, .int (nI k)), (3, .int (nI (by1 f p))), (4, .int 0)], [], M206) _
              refine ps_st (S' := (89, [(0, .ref r), (1, .int (nI k)), (3, .int (nI (by1 f p))), (4, .int 0)], [.int 1], M206)) rfl rfl rfl ?_
              exact ps_ret rfl rfl (Or.inl ⟨p + 1, (by1 f p), 0, _, by
                  unfold s_ix
                  repeat' split
                  all_goals first | rfl | (exfalso; omega), rfl, h212, h215, h208, h209, hF219⟩)
            · have c_49 : ¬ ((nI t) = 19) := of_decide_eq_false c_49
              have n_49 : ¬ (t = 19) := fun h9 => c_49 ((eq_nI (p := t) (n := 19) (by omega) (by decide)).mpr h9)
              refine ps_st (S' := (53, [(4, .int 0), (3, .int (nI (by1 f p))), (0, .ref r), (1, .int (nI k)), (2, .int (nI t))], [.int (nI t)], M146)) rfl rfl rfl ?_
              refine ps_st (S' := (55, [(4, .int 0), (3, .int (nI (by1 f p))), (0, .ref r), (1, .int (nI k)), (2, .int (nI t))], [.int 20, .int (nI t)], M146)) rfl rfl rfl ?_
              refine ps_if2 (S1 := (74, [(0, .ref r), (1, .int (nI k)), (3, .int (nI (by1 f p))), (4, .int 0)], [], M146)) (S2 := (58, [(4, .int 0), (3, .int (nI (by1 f p))), (0, .ref r), (1, .int (nI k)), (2, .int (nI t))], [], M146)) rfl rfl rfl (fun c_55 => ?_) (fun c_55 => ?_)
              · have c_55 : (nI t) = 20 := of_decide_eq_true c_55
                have n_55 : t = 20 := (eq_nI (p := t) (n := 20) (by omega) (by decide)).mp c_55
                refine ps_st (S' := (75, [(0, .ref r), (1, .int (nI k)), (3, .int (nI (by1 f p))), (4, .int 0)], [.ref r], M146)) rfl rfl rfl ?_
                refine ps_get (S' := (78, [(0, .ref r), (1, .int (nI k)), (3, .int (nI (by1 f p))), (4, .int 0)], [.ref c], M146)) rfl h148 rfl rfl ?_
                refine ps_get (S' := (81, [(0, .ref r), (1, .int (nI k)), (3, .int (nI (by1 f p))), (4, .int 0)], [.ref pq], M146)) rfl h154 rfl rfl ?_
                refine ps_st (S' := (82, [(0, .ref r), (1, .int (nI k)), (3, .int (nI (by1 f p))), (4, .int 0)], [.int (nI k), .ref pq], M146)) rfl rfl rfl ?_
                refine ps_st (S' := (83, [(0, .ref r), (1, .int (nI k)), (3, .int (nI (by1 f p))), (4, .int 0)], [.int (nI (by1 f p)), .int (nI k), .ref pq], M146)) rfl rfl rfl ?_
                refine ps_st (S' := (85, [(0, .ref r), (1, .int (nI k)), (3, .int (nI (by1 f p))), (4, .int 0)], [.int 0, .int (nI (by1 f p)), .int (nI k), .ref pq], M146)) rfl rfl rfl ?_
                refine pl_call (a := [.ref pq, .int (nI k), .int (nI (by1 f p)), .int 0]) (rest := []) rfl rfl rfl (dx_setNumbers h155 h156 h157 h158 (hD) (hh) (hk)) (fun v220 M221 q222 => ?_)
                obtain ⟨rfl, h223, h224, f225⟩ := q222
                have h227 := (f225.1 r (nin2 (ob_ar h148 h157) (ob_ar h148 h158))).trans h148
                have h228 := (f225.1 b (nin2 (ob_ar h152 h157) (ob_ar h152 h158))).trans h152
                have h229 := (f225.1 da (nin2 (ar_ne h153 h157 (by decide)) (ar_ne h153 h158 (by decide)))).trans h153
                have h230 := (f225.1 vd (nin2 (ob_ar h149 h157) (ob_ar h149 h158))).trans h149
                have h231 := (f225.1 c (nin2 (ob_ar h154 h157) (ob_ar h154 h158))).trans h154
                have h232 := (f225.1 pq (nin2 (ob_ar h155 h157) (ob_ar h155 h158))).trans h155
                have h233 := (f225.1 q1 (nin2 hD.1.2.1 hD.1.2.2.1)).trans h156
                have hF234 := hF159.tr f225 (by simp)
                show pl _ _ _ (88, [(0, .ref r), (1, .int (nI k)), (3, .int (nI (by1 f p))), (4, .int 0)], [], M221) _
                refine ps_st (S' := (89, [(0, .ref r), (1, .int (nI k)), (3, .int (nI (by1 f p))), (4, .int 0)], [.int 1], M221)) rfl rfl rfl ?_
                exact ps_ret rfl rfl (Or.inl ⟨p + 1, (by1 f p), 0, _, by
                    unfold s_ix
                    repeat' split
                    all_goals first | rfl | (exfalso; omega), rfl, h227, h230, h223, h224, hF234⟩)
              · have c_55 : ¬ ((nI t) = 20) := of_decide_eq_false c_55
                have n_55 : ¬ (t = 20) := fun h9 => c_55 ((eq_nI (p := t) (n := 20) (by omega) (by decide)).mpr h9)
                refine ps_st (S' := (59, [(4, .int 0), (3, .int (nI (by1 f p))), (0, .ref r), (1, .int (nI k)), (2, .int (nI t))], [.ref r], M146)) rfl rfl rfl ?_
                refine ps_st (S' := (60, [(4, .int 0), (3, .int (nI (by1 f p))), (0, .ref r), (1, .int (nI k)), (2, .int (nI t))], [.int 2, .ref r], M146)) rfl rfl rfl ?_
                refine pl_call (a := [.ref r, .int 2]) (rest := []) rfl rfl rfl (dx_takes2 h148 h152 h153 h149 (hn) (by omega)) (fun v235 M236 q237 => ?_)
                rcases q237 with q237 | q237
                · skip
                  obtain ⟨q60_ok, rfl, h238, h239, f240⟩ := q237
                  have h242 := (f240.1 b (nin2 (ob_ne h152 h148 (by decide)) (ob_ne h152 h149 (by decide)))).trans h152
                  have h243 := (f240.1 da (nin2 (Ne.symm (ob_ar h148 h153)) (Ne.symm (ob_ar h149 h153)))).trans h153
                  have h244 := (f240.1 c (nin2 (ob_ne h154 h148 (by decide)) (ob_ne h154 h149 (by decide)))).trans h154
                  have h245 := (f240.1 pq (nin2 (ob_ne h155 h148 (by decide)) (ob_ne h155 h149 (by decide)))).trans h155
                  have h246 := (f240.1 q1 (nin2 (Ne.symm (ob_ar h148 h156)) (Ne.symm (ob_ar h149 h156)))).trans h156
                  have h247 := (f240.1 q3 (nin2 (Ne.symm (ob_ar h148 h157)) (Ne.symm (ob_ar h149 h157)))).trans h157
                  have h248 := (f240.1 q4 (nin2 (Ne.symm (ob_ar h148 h158)) (Ne.symm (ob_ar h149 h158)))).trans h158
                  have hF249 := hF159.tr f240 (by simp)
                  show pl _ _ _ (63, [(4, .int 0), (3, .int (nI (by1 f p))), (0, .ref r), (1, .int (nI k)), (2, .int (nI t))], [.int 1], M236) _
                  refine ps_if (S1 := (68, [(4, .int 0), (3, .int (nI (by1 f p))), (0, .ref r), (1, .int (nI k)), (2, .int (nI t))], [], M236)) (S2 := (66, [(4, .int 0), (3, .int (nI (by1 f p))), (0, .ref r), (1, .int (nI k)), (2, .int (nI t))], [], M236)) rfl rfl rfl (fun c_63 => ?_) (fun c_63 => ?_)
                  rotate_left
                  · exact absurd (by decide) (of_decide_eq_false c_63)
                  refine ps_st (S' := (69, [(4, .int 0), (3, .int (nI (by1 f p))), (0, .ref r), (1, .int (nI k)), (2, .int (nI t))], [.ref r], M236)) rfl rfl rfl ?_
                  refine ps_get (S' := (72, [(4, .int 0), (3, .int (nI (by1 f p))), (0, .ref r), (1, .int (nI k)), (2, .int (nI t))], [.int (nI (by2 f (p + 1)))], M236)) rfl h238 rfl rfl ?_
                  refine ps_st (S' := (74, [(0, .ref r), (1, .int (nI k)), (3, .int (nI (by1 f p))), (4, .int (nI (by2 f (p + 1))))], [], M236)) rfl rfl rfl ?_
                  refine ps_st (S' := (75, [(0, .ref r), (1, .int (nI k)), (3, .int (nI (by1 f p))), (4, .int (nI (by2 f (p + 1))))], [.ref r], M236)) rfl rfl rfl ?_
                  refine ps_get (S' := (78, [(0, .ref r), (1, .int (nI k)), (3, .int (nI (by1 f p))), (4, .int (nI (by2 f (p + 1))))], [.ref c], M236)) rfl h238 rfl rfl ?_
                  refine ps_get (S' := (81, [(0, .ref r), (1, .int (nI k)), (3, .int (nI (by1 f p))), (4, .int (nI (by2 f (p + 1))))], [.ref pq], M236)) rfl h244 rfl rfl ?_
                  refine ps_st (S' := (82, [(0, .ref r), (1, .int (nI k)), (3, .int (nI (by1 f p))), (4, .int (nI (by2 f (p + 1))))], [.int (nI k), .ref pq], M236)) rfl rfl rfl ?_
                  refine ps_st (S' := (83, [(0, .ref r), (1, .int (nI k)), (3, .int (nI (by1 f p))), (4, .int (nI (by2 f (p + 1))))], [.int (nI (by1 f p)), .int (nI k), .ref pq], M236)) rfl rfl rfl ?_
                  refine ps_st (S' := (85, [(0, .ref r), (1, .int (nI k)), (3, .int (nI (by1 f p))), (4, .int (nI (by2 f (p + 1))))], [.int (nI (by2 f (p + 1))), .int (nI (by1 f p)), .int (nI k), .ref pq], M236)) rfl rfl rfl ?_
                  refine pl_call (a := [.ref pq, .int (nI k), .int (nI (by1 f p)), .int (nI (by2 f (p + 1)))]) (rest := []) rfl rfl rfl (dx_setNumbers h245 h246 h247 h248 (hD) (hh) (hk)) (fun v250 M251 q252 => ?_)
                  obtain ⟨rfl, h253, h254, f255⟩ := q252
                  have h257 := (f255.1 r (nin2 (ob_ar h238 h247) (ob_ar h238 h248))).trans h238
                  have h258 := (f255.1 b (nin2 (ob_ar h242 h247) (ob_ar h242 h248))).trans h242
                  have h259 := (f255.1 da (nin2 (ar_ne h243 h247 (by decide)) (ar_ne h243 h248 (by decide)))).trans h243
                  have h260 := (f255.1 vd (nin2 (ob_ar h239 h247) (ob_ar h239 h248))).trans h239
                  have h261 := (f255.1 c (nin2 (ob_ar h244 h247) (ob_ar h244 h248))).trans h244
                  have h262 := (f255.1 pq (nin2 (ob_ar h245 h247) (ob_ar h245 h248))).trans h245
                  have h263 := (f255.1 q1 (nin2 hD.1.2.1 hD.1.2.2.1)).trans h246
                  have hF264 := hF249.tr f255 (by simp)
                  show pl _ _ _ (88, [(0, .ref r), (1, .int (nI k)), (3, .int (nI (by1 f p))), (4, .int (nI (by2 f (p + 1))))], [], M251) _
                  refine ps_st (S' := (89, [(0, .ref r), (1, .int (nI k)), (3, .int (nI (by1 f p))), (4, .int (nI (by2 f (p + 1))))], [.int 1], M251)) rfl rfl rfl ?_
                  exact ps_ret rfl rfl (Or.inl ⟨p + 3, (by1 f p), by2 f (p + 1), _, by
                      unfold s_ix
                      repeat' split
                      all_goals first | rfl | (exfalso; omega), rfl, h257, h260, h253, h254, hF264⟩)
                · skip
                  obtain ⟨q60_no, rfl, h265, h266, f267⟩ := q237
                  have h269 := (f267.1 b (nin2 (ob_ne h152 h148 (by decide)) (ob_ne h152 h149 (by decide)))).trans h152
                  have h270 := (f267.1 da (nin2 (Ne.symm (ob_ar h148 h153)) (Ne.symm (ob_ar h149 h153)))).trans h153
                  have h271 := (f267.1 c (nin2 (ob_ne h154 h148 (by decide)) (ob_ne h154 h149 (by decide)))).trans h154
                  have h272 := (f267.1 pq (nin2 (ob_ne h155 h148 (by decide)) (ob_ne h155 h149 (by decide)))).trans h155
                  have h273 := (f267.1 q1 (nin2 (Ne.symm (ob_ar h148 h156)) (Ne.symm (ob_ar h149 h156)))).trans h156
                  have h274 := (f267.1 q3 (nin2 (Ne.symm (ob_ar h148 h157)) (Ne.symm (ob_ar h149 h157)))).trans h157
                  have h275 := (f267.1 q4 (nin2 (Ne.symm (ob_ar h148 h158)) (Ne.symm (ob_ar h149 h158)))).trans h158
                  have hF276 := hF159.tr f267 (by simp)
                  show pl _ _ _ (63, [(4, .int 0), (3, .int (nI (by1 f p))), (0, .ref r), (1, .int (nI k)), (2, .int (nI t))], [.int 0], M236) _
                  refine ps_if (S1 := (68, [(4, .int 0), (3, .int (nI (by1 f p))), (0, .ref r), (1, .int (nI k)), (2, .int (nI t))], [], M236)) (S2 := (66, [(4, .int 0), (3, .int (nI (by1 f p))), (0, .ref r), (1, .int (nI k)), (2, .int (nI t))], [], M236)) rfl rfl rfl (fun c_63 => ?_) (fun c_63 => ?_)
                  · exact absurd (of_decide_eq_true c_63) (by decide)
                  refine ps_st (S' := (67, [(4, .int 0), (3, .int (nI (by1 f p))), (0, .ref r), (1, .int (nI k)), (2, .int (nI t))], [.int 0], M236)) rfl rfl rfl ?_
                  exact ps_ret rfl rfl (Or.inr ⟨(1, p + 1), by
                      unfold s_ix
                      repeat' split
                      all_goals first | rfl | (exfalso; omega), rfl, h266, hF276⟩)
    · skip
      obtain ⟨q12_no, rfl, h277, h278, f279⟩ := q147
      have h281 := (f279.1 b (nin2 (ob_ne h_b h_r (by decide)) (ob_ne h_b h_vd (by decide)))).trans h_b
      have h282 := (f279.1 da (nin2 (Ne.symm (ob_ar h_r h_da)) (Ne.symm (ob_ar h_vd h_da)))).trans h_da
      have h283 := (f279.1 c (nin2 (ob_ne h_c h_r (by decide)) (ob_ne h_c h_vd (by decide)))).trans h_c
      have h284 := (f279.1 pq (nin2 (ob_ne h_pq h_r (by decide)) (ob_ne h_pq h_vd (by decide)))).trans h_pq
      have h285 := (f279.1 q1 (nin2 (Ne.symm (ob_ar h_r h_q1)) (Ne.symm (ob_ar h_vd h_q1)))).trans h_q1
      have h286 := (f279.1 q3 (nin2 (Ne.symm (ob_ar h_r h_q3)) (Ne.symm (ob_ar h_vd h_q3)))).trans h_q3
      have h287 := (f279.1 q4 (nin2 (Ne.symm (ob_ar h_r h_q4)) (Ne.symm (ob_ar h_vd h_q4)))).trans h_q4
      have hF288 := hF.tr f279 (by simp)
      show pl _ _ _ (15, [(0, .ref r), (1, .int (nI k)), (2, .int (nI t))], [.int 0], M146) _
      refine ps_if (S1 := (20, [(0, .ref r), (1, .int (nI k)), (2, .int (nI t))], [], M146)) (S2 := (18, [(0, .ref r), (1, .int (nI k)), (2, .int (nI t))], [], M146)) rfl rfl rfl (fun c_15 => ?_) (fun c_15 => ?_)
      · exact absurd (of_decide_eq_true c_15) (by decide)
      refine ps_st (S' := (19, [(0, .ref r), (1, .int (nI k)), (2, .int (nI t))], [.int 0], M146)) rfl rfl rfl ?_
      exact ps_ret rfl rfl (Or.inr ⟨(1, p), by
          unfold s_ix
          repeat' split
          all_goals first | rfl | (exfalso; omega), rfl, h278, hF288⟩)
theorem s_ix_le {f : Nat → Int32} {n t p p' x y : Nat} (h : s_ix f n t (p + 1) = .inr (p', x, y)) : p + 3 ≤ p' ∧ p' ≤ n := by
  unfold s_ix at h
  repeat' split at h
  all_goals first | (cases h; omega) | cases h
set_option maxHeartbeats 1000000 in
theorem dx_takesEntry {g : xe_G} {M : mi_H} {r c b vd da n p mj N : Nat} {f : Nat → Int32} {it ru wa mi fa ic ac aa k1 k2 k3 k4 k5 k6 k7 : Int32} {u6 u7 : Value} {pq q1 q2 q3 q4 q5 q6 hd m cc : Nat} {F1 F2 F3 F4 F6 : Nat → Int32} {k : Nat} (h_r : M.1 r = some (ob 9 [.ref c, .ref b, .ref vd, .int (nI p), .int it])) (h_b : M.1 b = some (ob 1 [.ref da])) (h_da : M.1 da = some (ar .byte n f)) (h_vd : M.1 vd = some (ob 10 [.int ru, .int wa])) (h_c : M.1 c = some (ob 3 [.ref b, .ref pq, .int mi, .int (nI mj), .int fa, .int ic, u6, u7, .int ac, .int aa, .int k1, .int k2, .int k3, .int k4, .int k5, .int k6, .int k7])) (h_pq : M.1 pq = some (ob 7 [.int (nI N), .ref q1, .ref q2, .ref q3, .ref q4, .ref q5, .ref q6, .int (nI cc)])) (h_q1 : M.1 q1 = some (ar .int hd F1)) (h_q3 : M.1 q3 = some (ar .int hd F3)) (h_q4 : M.1 q4 = some (ar .int hd F4)) (h_q2 : M.1 q2 = some (ar .int hd F2)) (h_q6 : M.1 q6 = some (ar .char m F6)) (hn : n ≤ 65540) (hp : p ≤ n) (hD : dst5 q1 q2 q3 q4 q5) (hh : hd < 1073741824) (hm : m = n) (hc : cc ≤ p) (hN : N < 65536) (hj : mj < 65536) (hk : k < N) (hk3 : p + 1 ≤ n → k < hd) : pt (mT g) 163 [.ref r, .int (nI k)] M (fun v M' => (∃ (p' : Nat) (l : List Nat) (it' : Int32), (s_entry f n mj N k p = .inr (p', .inl l)) ∧ (cc + l.length ≤ p') ∧ (p + 3 ≤ p' ∧ p' ≤ n) ∧ v = some (.int 1) ∧ M'.1 q1 = some (ar .int hd (upd F1 k (nI (by1 f p)))) ∧ M'.1 q2 = some (ar .int hd (upd F2 k (nI p))) ∧ M'.1 r = some (ob 9 [.ref c, .ref b, .ref vd, .int (nI p'), .int it']) ∧ M'.1 vd = some (ob 10 [.int ru, .int wa]) ∧ M'.1 pq = some (ob 7 [.int (nI N), .ref q1, .ref q2, .ref q3, .ref q4, .ref q5, .ref q6, .int (nI (cc + l.length))]) ∧ M'.1 q3 = some (ar .int hd (upd F3 k (nI cc))) ∧ M'.1 q4 = some (ar .int hd (upd F4 k (nI l.length))) ∧ M'.1 q6 = some (ar .char m (wr F6 cc l)) ∧ fm [r, vd, pq, q1, q2, q3, q4, q6] M M') ∨ (∃ (p' : Nat) (it' : Int32), (s_entry f n mj N k p = .inr (p', .inr none)) ∧ (p + 3 ≤ p' ∧ p' ≤ n) ∧ v = some (.int 1) ∧ M'.1 q1 = some (ar .int hd (upd F1 k (nI (by1 f p)))) ∧ M'.1 q2 = some (ar .int hd (upd F2 k (nI p))) ∧ M'.1 r = some (ob 9 [.ref c, .ref b, .ref vd, .int (nI p'), .int it']) ∧ M'.1 vd = some (ob 10 [.int ru, .int wa]) ∧ M'.1 pq = some (ob 7 [.int (nI N), .ref q1, .ref q2, .ref q3, .ref q4, .ref q5, .ref q6, .int (nI cc)]) ∧ M'.1 q3 = some (ar .int hd F3) ∧ M'.1 q4 = some (ar .int hd F4) ∧ M'.1 q6 = some (ar .char m F6) ∧ fm [r, vd, pq, q1, q2, q3, q4, q6] M M') ∨ (∃ (p' x y : Nat) (it' : Int32), (s_entry f n mj N k p = .inr (p', .inr (some (x, y)))) ∧ (p + 3 ≤ p' ∧ p' ≤ n) ∧ v = some (.int 1) ∧ M'.1 q1 = some (ar .int hd (upd F1 k (nI (by1 f p)))) ∧ M'.1 q2 = some (ar .int hd (upd F2 k (nI p))) ∧ M'.1 r = some (ob 9 [.ref c, .ref b, .ref vd, .int (nI p'), .int it']) ∧ M'.1 vd = some (ob 10 [.int ru, .int wa]) ∧ M'.1 pq = some (ob 7 [.int (nI N), .ref q1, .ref q2, .ref q3, .ref q4, .ref q5, .ref q6, .int (nI cc)]) ∧ M'.1 q3 = some (ar .int hd (upd F3 k (nI x))) ∧ M'.1 q4 = some (ar .int hd (upd F4 k (nI y))) ∧ M'.1 q6 = some (ar .char m F6) ∧ fm [r, vd, pq, q1, q2, q3, q4, q6] M M') ∨ (∃ (e : Nat × Nat), (s_entry f n mj N k p = .inl e) ∧ v = some (.int 0) ∧ M'.1 vd = some (ob 10 [.int (nI e.1), .int (nI e.2)]) ∧ fm [r, vd, pq, q1, q2, q3, q4, q6] M M')) := by
  refine pt_in (b := mb_163 g) rfl (fun kf => ?_)
  show pl (mT g) kf (mb_163 g).2 (0, [(0, .ref r), (1, .int (nI k))], [], M) _
  have hF : fm [r, vd, pq, q1, q2, q3, q4, q6] M M := fm.rf
  have hb1 := by1_lt f p
  have hb2 := by2_lt f (p + 1)
  refine ps_st (S' := (1, [(0, .ref r), (1, .int (nI k))], [.ref r], M)) rfl rfl rfl ?_
  refine ps_get (S' := (4, [(0, .ref r), (1, .int (nI k))], [.int (nI p)], M)) rfl h_r rfl rfl ?_
  refine ps_st (S' := (5, [(2, .int (nI p)), (0, .ref r), (1, .int (nI k))], [], M)) rfl rfl rfl ?_
  refine ps_st (S' := (6, [(2, .int (nI p)), (0, .ref r), (1, .int (nI k))], [.ref r], M)) rfl rfl rfl ?_
  refine ps_st (S' := (7, [(2, .int (nI p)), (0, .ref r), (1, .int (nI k))], [.int 1, .ref r], M)) rfl rfl rfl ?_
  refine pl_call (a := [.ref r, .int 1]) (rest := []) rfl rfl rfl (dx_takes1 h_r h_b h_da h_vd (hn) (by omega)) (fun v1 M2 q3 => ?_)
  rcases q3 with q3 | q3
  · skip
    obtain ⟨q7_ok, rfl, h4, h5, f6⟩ := q3
    have h8 := (f6.1 b (nin2 (ob_ne h_b h_r (by decide)) (ob_ne h_b h_vd (by decide)))).trans h_b
    have h9 := (f6.1 da (nin2 (Ne.symm (ob_ar h_r h_da)) (Ne.symm (ob_ar h_vd h_da)))).trans h_da
    have h10 := (f6.1 c (nin2 (ob_ne h_c h_r (by decide)) (ob_ne h_c h_vd (by decide)))).trans h_c
    have h11 := (f6.1 pq (nin2 (ob_ne h_pq h_r (by decide)) (ob_ne h_pq h_vd (by decide)))).trans h_pq
    have h12 := (f6.1 q1 (nin2 (Ne.symm (ob_ar h_r h_q1)) (Ne.symm (ob_ar h_vd h_q1)))).trans h_q1
    have h13 := (f6.1 q3 (nin2 (Ne.symm (ob_ar h_r h_q3)) (Ne.symm (ob_ar h_vd h_q3)))).trans h_q3
    have h14 := (f6.1 q4 (nin2 (Ne.symm (ob_ar h_r h_q4)) (Ne.symm (ob_ar h_vd h_q4)))).trans h_q4
    have h15 := (f6.1 q2 (nin2 (Ne.symm (ob_ar h_r h_q2)) (Ne.symm (ob_ar h_vd h_q2)))).trans h_q2
    have h16 := (f6.1 q6 (nin2 (Ne.symm (ob_ar h_r h_q6)) (Ne.symm (ob_ar h_vd h_q6)))).trans h_q6
    have hF17 := hF.tr f6 (by simp)
    show pl _ _ _ (10, [(2, .int (nI p)), (0, .ref r), (1, .int (nI k))], [.int 1], M2) _
    refine ps_if (S1 := (15, [(2, .int (nI p)), (0, .ref r), (1, .int (nI k))], [], M2)) (S2 := (13, [(2, .int (nI p)), (0, .ref r), (1, .int (nI k))], [], M2)) rfl rfl rfl (fun c_10 => ?_) (fun c_10 => ?_)
    rotate_left
    · exact absurd (by decide) (of_decide_eq_false c_10)
    refine ps_st (S' := (16, [(2, .int (nI p)), (0, .ref r), (1, .int (nI k))], [.ref r], M2)) rfl rfl rfl ?_
    refine ps_get (S' := (19, [(2, .int (nI p)), (0, .ref r), (1, .int (nI k))], [.int (nI (by1 f p))], M2)) rfl h4 rfl rfl ?_
    refine ps_st (S' := (20, [(3, .int (nI (by1 f p))), (2, .int (nI p)), (0, .ref r), (1, .int (nI k))], [], M2)) rfl rfl rfl ?_
    refine ps_st (S' := (21, [(3, .int (nI (by1 f p))), (2, .int (nI p)), (0, .ref r), (1, .int (nI k))], [.ref r], M2)) rfl rfl rfl ?_
    refine ps_st (S' := (22, [(3, .int (nI (by1 f p))), (2, .int (nI p)), (0, .ref r), (1, .int (nI k))], [.int (nI (by1 f p)), .ref r], M2)) rfl rfl rfl ?_
    refine pl_call (a := [.ref r, .int (nI (by1 f p))]) (rest := []) rfl rfl rfl (dx_isTag h4 h10 (by1_lt _ _) (hj)) (fun v18 M19 q20 => ?_)
    rcases q20 with q20 | q20
    · skip
      obtain ⟨q22_y, rfl, f21⟩ := q20
      have h23 := (f21.1 r (by simp)).trans h4
      have h24 := (f21.1 b (by simp)).trans h8
      have h25 := (f21.1 da (by simp)).trans h9
      have h26 := (f21.1 vd (by simp)).trans h5
      have h27 := (f21.1 c (by simp)).trans h10
      have h28 := (f21.1 pq (by simp)).trans h11
      have h29 := (f21.1 q1 (by simp)).trans h12
      have h30 := (f21.1 q3 (by simp)).trans h13
      have h31 := (f21.1 q4 (by simp)).trans h14
      have h32 := (f21.1 q2 (by simp)).trans h15
      have h33 := (f21.1 q6 (by simp)).trans h16
      have hF34 := hF17.tr f21 (by simp)
      show pl _ _ _ (25, [(3, .int (nI (by1 f p))), (2, .int (nI p)), (0, .ref r), (1, .int (nI k))], [.int 1], M19) _
      refine ps_if (S1 := (38, [(3, .int (nI (by1 f p))), (2, .int (nI p)), (0, .ref r), (1, .int (nI k))], [], M19)) (S2 := (28, [(3, .int (nI (by1 f p))), (2, .int (nI p)), (0, .ref r), (1, .int (nI k))], [], M19)) rfl rfl rfl (fun c_25 => ?_) (fun c_25 => ?_)
      rotate_left
      · exact absurd (by decide) (of_decide_eq_false c_25)
      refine ps_st (S' := (39, [(3, .int (nI (by1 f p))), (2, .int (nI p)), (0, .ref r), (1, .int (nI k))], [.int (nI (by1 f p))], M19)) rfl rfl rfl ?_
      refine ps_st (S' := (40, [(3, .int (nI (by1 f p))), (2, .int (nI p)), (0, .ref r), (1, .int (nI k))], [.int 5, .int (nI (by1 f p))], M19)) rfl rfl rfl ?_
      refine ps_if2 (S1 := (49, [(0, .ref r), (1, .int (nI k)), (2, .int (nI p)), (3, .int (nI (by1 f p)))], [], M19)) (S2 := (43, [(3, .int (nI (by1 f p))), (2, .int (nI p)), (0, .ref r), (1, .int (nI k))], [], M19)) rfl rfl rfl (fun c_40 => ?_) (fun c_40 => ?_)
      · have c_40 : (nI (by1 f p)) = 5 := of_decide_eq_true c_40
        have n_40 : by1 f p = 5 := (eq_nI (p := by1 f p) (n := 5) (Nat.lt_trans (by1_lt _ _) (by decide)) (by decide)).mp c_40
        refine ps_st (S' := (50, [(0, .ref r), (1, .int (nI k)), (2, .int (nI p)), (3, .int (nI (by1 f p)))], [.int (nI k)], M19)) rfl rfl rfl ?_
        refine ps_st (S' := (51, [(0, .ref r), (1, .int (nI k)), (2, .int (nI p)), (3, .int (nI (by1 f p)))], [.int 1, .int (nI k)], M19)) rfl rfl rfl ?_
        refine ps_st (S' := (52, [(0, .ref r), (1, .int (nI k)), (2, .int (nI p)), (3, .int (nI (by1 f p)))], [.int ((nI k) + 1)], M19)) rfl rfl rfl ?_
        rw [nI_add1 (p := k) (k := 1) (x := 1) rfl (by omega)]
        show pl _ _ _ (_, [(0, .ref r), (1, .int (nI k)), (2, .int (nI p)), (3, .int (nI (by1 f p)))], [.int (nI (k + 1))], M19) _
        refine ps_st (S' := (53, [(0, .ref r), (1, .int (nI k)), (2, .int (nI p)), (3, .int (nI (by1 f p)))], [.ref r, .int (nI (k + 1))], M19)) rfl rfl rfl ?_
        refine ps_get (S' := (56, [(0, .ref r), (1, .int (nI k)), (2, .int (nI p)), (3, .int (nI (by1 f p)))], [.ref c, .int (nI (k + 1))], M19)) rfl h23 rfl rfl ?_
        refine ps_get (S' := (59, [(0, .ref r), (1, .int (nI k)), (2, .int (nI p)), (3, .int (nI (by1 f p)))], [.ref pq, .int (nI (k + 1))], M19)) rfl h27 rfl rfl ?_
        refine ps_get (S' := (62, [(0, .ref r), (1, .int (nI k)), (2, .int (nI p)), (3, .int (nI (by1 f p)))], [.int (nI N), .int (nI (k + 1))], M19)) rfl h28 rfl rfl ?_
        refine ps_if2 (S1 := (76, [(0, .ref r), (1, .int (nI k)), (2, .int (nI p)), (3, .int (nI (by1 f p)))], [], M19)) (S2 := (65, [(0, .ref r), (1, .int (nI k)), (2, .int (nI p)), (3, .int (nI (by1 f p)))], [], M19)) rfl rfl rfl (fun c_62 => ?_) (fun c_62 => ?_)
        · have c_62 : (nI (k + 1)) < (nI N) := of_decide_eq_true c_62
          have n_62 : k + 1 < N := (lt_nI (p := k + 1) (n := N) (by omega) (by omega)).mp c_62
          refine ps_st (S' := (77, [(0, .ref r), (1, .int (nI k)), (2, .int (nI p)), (3, .int (nI (by1 f p)))], [.ref r], M19)) rfl rfl rfl ?_
          refine ps_get (S' := (80, [(0, .ref r), (1, .int (nI k)), (2, .int (nI p)), (3, .int (nI (by1 f p)))], [.ref c], M19)) rfl h23 rfl rfl ?_
          refine ps_get (S' := (83, [(0, .ref r), (1, .int (nI k)), (2, .int (nI p)), (3, .int (nI (by1 f p)))], [.ref pq], M19)) rfl h27 rfl rfl ?_
          refine ps_st (S' := (84, [(0, .ref r), (1, .int (nI k)), (2, .int (nI p)), (3, .int (nI (by1 f p)))], [.int (nI k), .ref pq], M19)) rfl rfl rfl ?_
          refine ps_st (S' := (85, [(0, .ref r), (1, .int (nI k)), (2, .int (nI p)), (3, .int (nI (by1 f p)))], [.int (nI (by1 f p)), .int (nI k), .ref pq], M19)) rfl rfl rfl ?_
          refine ps_st (S' := (86, [(0, .ref r), (1, .int (nI k)), (2, .int (nI p)), (3, .int (nI (by1 f p)))], [.int (nI p), .int (nI (by1 f p)), .int (nI k), .ref pq], M19)) rfl rfl rfl ?_
          refine pl_call (a := [.ref pq, .int (nI k), .int (nI (by1 f p)), .int (nI p)]) (rest := []) rfl rfl rfl (dx_setTag h28 h29 h32 (hD) (hh) (hk3 (by omega))) (fun v35 M36 q37 => ?_)
          obtain ⟨rfl, h38, h39, f40⟩ := q37
          have h42 := (f40.1 r (nin2 (ob_ar h23 h29) (ob_ar h23 h32))).trans h23
          have h43 := (f40.1 b (nin2 (ob_ar h24 h29) (ob_ar h24 h32))).trans h24
          have h44 := (f40.1 da (nin2 (ar_ne h25 h29 (by decide)) (ar_ne h25 h32 (by decide)))).trans h25
          have h45 := (f40.1 vd (nin2 (ob_ar h26 h29) (ob_ar h26 h32))).trans h26
          have h46 := (f40.1 c (nin2 (ob_ar h27 h29) (ob_ar h27 h32))).trans h27
          have h47 := (f40.1 pq (nin2 (ob_ar h28 h29) (ob_ar h28 h32))).trans h28
          have h48 := (f40.1 q3 (nin2 (Ne.symm hD.1.2.1) (Ne.symm hD.2.1.1))).trans h30
          have h49 := (f40.1 q4 (nin2 (Ne.symm hD.1.2.2.1) (Ne.symm hD.2.1.2.1))).trans h31
          have h50 := (f40.1 q6 (nin2 (ar_ne h33 h29 (by decide)) (ar_ne h33 h32 (by decide)))).trans h33
          have hF51 := hF34.tr f40 (by simp)
          show pl _ _ _ (89, [(0, .ref r), (1, .int (nI k)), (2, .int (nI p)), (3, .int (nI (by1 f p)))], [], M36) _
          refine ps_st (S' := (90, [(0, .ref r), (1, .int (nI k)), (2, .int (nI p)), (3, .int (nI (by1 f p)))], [.int (nI (by1 f p))], M36)) rfl rfl rfl ?_
          refine pl_sw rfl (fun t_90 et_90 => ?_)
          have ht_90 : t_90 ∈ [128, 134, 140, 162] := mi_sw_sub et_90 (by decide)
          simp only [List.mem_cons, List.not_mem_nil, or_false] at ht_90
          rcases ht_90 with rfl | rfl | rfl | rfl
          · show pl _ _ _ (128, [(0, .ref r), (1, .int (nI k)), (2, .int (nI p)), (3, .int (nI (by1 f p)))], [], M36) _
            have m_90 := sw_nat (t := by1 f p) (by omega) et_90
            simp at m_90
            refine ps_st (S' := (129, [(0, .ref r), (1, .int (nI k)), (2, .int (nI p)), (3, .int (nI (by1 f p)))], [.ref r], M36)) rfl rfl rfl ?_
            refine ps_st (S' := (130, [(0, .ref r), (1, .int (nI k)), (2, .int (nI p)), (3, .int (nI (by1 f p)))], [.int (nI k), .ref r], M36)) rfl rfl rfl ?_
            refine pl_call (a := [.ref r, .int (nI k)]) (rest := []) rfl rfl rfl (dx_takesText h42 h43 h44 h45 h46 h47 h38 h48 h49 h50 (hn) (by omega) (hD) (hh) (hm) (hk3 (by omega)) (by omega)) (fun v52 M53 q54 => ?_)
            rcases q54 with q54 | q54
            · skip
              obtain ⟨l55, it'56, q130_s, q130_e, q130_c, rfl, h57, h58, h59, h60, h61, h62, f63⟩ := q54
              have h65 := (f63.1 b (nin6 (ob_ne h43 h42 (by decide)) (ob_ne h43 h45 (by decide)) (ob_ne h43 h47 (by decide)) (ob_ar h43 h48) (ob_ar h43 h49) (ob_ar h43 h50))).trans h43
              have h66 := (f63.1 da (nin6 (Ne.symm (ob_ar h42 h44)) (Ne.symm (ob_ar h45 h44)) (Ne.symm (ob_ar h47 h44)) (ar_ne h44 h48 (by decide)) (ar_ne h44 h49 (by decide)) (ar_ne h44 h50 (by decide)))).trans h44
              have h67 := (f63.1 c (nin6 (ob_ne h46 h42 (by decide)) (ob_ne h46 h45 (by decide)) (ob_ne h46 h47 (by decide)) (ob_ar h46 h48) (ob_ar h46 h49) (ob_ar h46 h50))).trans h46
              have h68 := (f63.1 q1 (nin6 (Ne.symm (ob_ar h42 h38)) (Ne.symm (ob_ar h45 h38)) (Ne.symm (ob_ar h47 h38)) hD.1.2.1 hD.1.2.2.1 (ar_ne h38 h50 (by decide)))).trans h38
              have h69 := (f63.1 q2 (nin6 (Ne.symm (ob_ar h42 h39)) (Ne.symm (ob_ar h45 h39)) (Ne.symm (ob_ar h47 h39)) hD.2.1.1 hD.2.1.2.1 (ar_ne h39 h50 (by decide)))).trans h39
              have hF70 := hF51.tr f63 (by simp)
              show pl _ _ _ (133, [(0, .ref r), (1, .int (nI k)), (2, .int (nI p)), (3, .int (nI (by1 f p)))], [.int 1], M53) _
              exact ps_ret rfl rfl (Or.inl ⟨_, l55, _, by
                  unfold s_entry
                  rw [if_neg (by omega), if_neg (fun h => h (by assumption)), if_neg (by omega)]
                  rw [if_pos (by omega), q130_s], by omega, by omega, rfl, h68, h69, h57, h58, h59, h60, h61, h62, hF70⟩)
            · skip
              obtain ⟨e71, q130_s, rfl, h72, f73⟩ := q54
              have h75 := (f73.1 b (nin6 (ob_ne h43 h42 (by decide)) (ob_ne h43 h45 (by decide)) (ob_ne h43 h47 (by decide)) (ob_ar h43 h48) (ob_ar h43 h49) (ob_ar h43 h50))).trans h43
              have h76 := (f73.1 da (nin6 (Ne.symm (ob_ar h42 h44)) (Ne.symm (ob_ar h45 h44)) (Ne.symm (ob_ar h47 h44)) (ar_ne h44 h48 (by decide)) (ar_ne h44 h49 (by decide)) (ar_ne h44 h50 (by decide)))).trans h44
              have h77 := (f73.1 c (nin6 (ob_ne h46 h42 (by decide)) (ob_ne h46 h45 (by decide)) (ob_ne h46 h47 (by decide)) (ob_ar h46 h48) (ob_ar h46 h49) (ob_ar h46 h50))).trans h46
              have h78 := (f73.1 q1 (nin6 (Ne.symm (ob_ar h42 h38)) (Ne.symm (ob_ar h45 h38)) (Ne.symm (ob_ar h47 h38)) hD.1.2.1 hD.1.2.2.1 (ar_ne h38 h50 (by decide)))).trans h38
              have h79 := (f73.1 q2 (nin6 (Ne.symm (ob_ar h42 h39)) (Ne.symm (ob_ar h45 h39)) (Ne.symm (ob_ar h47 h39)) hD.2.1.1 hD.2.1.2.1 (ar_ne h39 h50 (by decide)))).trans h39
              have hF80 := hF51.tr f73 (by simp)
              show pl _ _ _ (133, [(0, .ref r), (1, .int (nI k)), (2, .int (nI p)), (3, .int (nI (by1 f p)))], [.int 0], M53) _
              exact ps_ret rfl rfl (Or.inr (Or.inr (Or.inr ⟨_, by
                  unfold s_entry
                  rw [if_neg (by omega), if_neg (fun h => h (by assumption)), if_neg (by omega)]
                  rw [if_pos (by omega), q130_s], rfl, h72, hF80⟩)))
          · show pl _ _ _ (134, [(0, .ref r), (1, .int (nI k)), (2, .int (nI p)), (3, .int (nI (by1 f p)))], [], M36) _
            have m_90 := sw_nat (t := by1 f p) (by omega) et_90
            simp at m_90
            refine ps_st (S' := (135, [(0, .ref r), (1, .int (nI k)), (2, .int (nI p)), (3, .int (nI (by1 f p)))], [.ref r], M36)) rfl rfl rfl ?_
            refine ps_st (S' := (136, [(0, .ref r), (1, .int (nI k)), (2, .int (nI p)), (3, .int (nI (by1 f p)))], [.int 4, .ref r], M36)) rfl rfl rfl ?_
            refine pl_call (a := [.ref r, .int 4]) (rest := []) rfl rfl rfl (dx_takes4 h42 h43 h44 h45 (hn) (by omega)) (fun v81 M82 q83 => ?_)
            rcases q83 with q83 | q83
            · skip
              obtain ⟨q136_ok, rfl, h84, h85, f86⟩ := q83
              have h88 := (f86.1 b (nin2 (ob_ne h43 h42 (by decide)) (ob_ne h43 h45 (by decide)))).trans h43
              have h89 := (f86.1 da (nin2 (Ne.symm (ob_ar h42 h44)) (Ne.symm (ob_ar h45 h44)))).trans h44
              have h90 := (f86.1 c (nin2 (ob_ne h46 h42 (by decide)) (ob_ne h46 h45 (by decide)))).trans h46
              have h91 := (f86.1 pq (nin2 (ob_ne h47 h42 (by decide)) (ob_ne h47 h45 (by decide)))).trans h47
              have h92 := (f86.1 q1 (nin2 (Ne.symm (ob_ar h42 h38)) (Ne.symm (ob_ar h45 h38)))).trans h38
              have h93 := (f86.1 q3 (nin2 (Ne.symm (ob_ar h42 h48)) (Ne.symm (ob_ar h45 h48)))).trans h48
              have h94 := (f86.1 q4 (nin2 (Ne.symm (ob_ar h42 h49)) (Ne.symm (ob_ar h45 h49)))).trans h49
              have h95 := (f86.1 q2 (nin2 (Ne.symm (ob_ar h42 h39)) (Ne.symm (ob_ar h45 h39)))).trans h39
              have h96 := (f86.1 q6 (nin2 (Ne.symm (ob_ar h42 h50)) (Ne.symm (ob_ar h45 h50)))).trans h50
              have hF97 := hF51.tr f86 (by simp)
              show pl _ _ _ (139, [(0, .ref r), (1, .int (nI k)), (2, .int (nI p)), (3, .int (nI (by1 f p)))], [.int 1], M82) _
              exact ps_ret rfl rfl (Or.inr (Or.inl ⟨p + 5, _, by
                  unfold s_entry
                  rw [if_neg (by omega), if_neg (fun h => h (by assumption)), if_neg (by omega)]
                  repeat' split
                  all_goals first | rfl | (exfalso; omega), by omega, rfl, h92, h95, h84, h85, h91, h93, h94, h96, hF97⟩))
            · skip
              obtain ⟨q136_no, rfl, h98, h99, f100⟩ := q83
              have h102 := (f100.1 b (nin2 (ob_ne h43 h42 (by decide)) (ob_ne h43 h45 (by decide)))).trans h43
              have h103 := (f100.1 da (nin2 (Ne.symm (ob_ar h42 h44)) (Ne.symm (ob_ar h45 h44)))).trans h44
              have h104 := (f100.1 c (nin2 (ob_ne h46 h42 (by decide)) (ob_ne h46 h45 (by decide)))).trans h46
              have h105 := (f100.1 pq (nin2 (ob_ne h47 h42 (by decide)) (ob_ne h47 h45 (by decide)))).trans h47
              have h106 := (f100.1 q1 (nin2 (Ne.symm (ob_ar h42 h38)) (Ne.symm (ob_ar h45 h38)))).trans h38
              have h107 := (f100.1 q3 (nin2 (Ne.symm (ob_ar h42 h48)) (Ne.symm (ob_ar h45 h48)))).trans h48
              have h108 := (f100.1 q4 (nin2 (Ne.symm (ob_ar h42 h49)) (Ne.symm (ob_ar h45 h49)))).trans h49
              have h109 := (f100.1 q2 (nin2 (Ne.symm (ob_ar h42 h39)) (Ne.symm (ob_ar h45 h39)))).trans h39
              have h110 := (f100.1 q6 (nin2 (Ne.symm (ob_ar h42 h50)) (Ne.symm (ob_ar h45 h50)))).trans h50
              have hF111 := hF51.tr f100 (by simp)
              show pl _ _ _ (139, [(0, .ref r), (1, .int (nI k)), (2, .int (nI p)), (3, .int (nI (by1 f p)))], [.int 0], M82) _
              exact ps_ret rfl rfl (Or.inr (Or.inr (Or.inr ⟨(1, p + 1), by
                  unfold s_entry
                  rw [if_neg (by omega), if_neg (fun h => h (by assumption)), if_neg (by omega)]
                  repeat' split
                  all_goals first | rfl | (exfalso; omega), rfl, h99, hF111⟩)))
          · show pl _ _ _ (140, [(0, .ref r), (1, .int (nI k)), (2, .int (nI p)), (3, .int (nI (by1 f p)))], [], M36) _
            have m_90 := sw_nat (t := by1 f p) (by omega) et_90
            simp at m_90
            refine ps_st (S' := (141, [(0, .ref r), (1, .int (nI k)), (2, .int (nI p)), (3, .int (nI (by1 f p)))], [.ref r], M36)) rfl rfl rfl ?_
            refine ps_st (S' := (142, [(0, .ref r), (1, .int (nI k)), (2, .int (nI p)), (3, .int (nI (by1 f p)))], [.int 4, .ref r], M36)) rfl rfl rfl ?_
            refine pl_call (a := [.ref r, .int 4]) (rest := []) rfl rfl rfl (dx_takes4 h42 h43 h44 h45 (hn) (by omega)) (fun v112 M113 q114 => ?_)
            rcases q114 with q114 | q114
            · skip
              obtain ⟨q142_ok, rfl, h115, h116, f117⟩ := q114
              have h119 := (f117.1 b (nin2 (ob_ne h43 h42 (by decide)) (ob_ne h43 h45 (by decide)))).trans h43
              have h120 := (f117.1 da (nin2 (Ne.symm (ob_ar h42 h44)) (Ne.symm (ob_ar h45 h44)))).trans h44
              have h121 := (f117.1 c (nin2 (ob_ne h46 h42 (by decide)) (ob_ne h46 h45 (by decide)))).trans h46
              have h122 := (f117.1 pq (nin2 (ob_ne h47 h42 (by decide)) (ob_ne h47 h45 (by decide)))).trans h47
              have h123 := (f117.1 q1 (nin2 (Ne.symm (ob_ar h42 h38)) (Ne.symm (ob_ar h45 h38)))).trans h38
              have h124 := (f117.1 q3 (nin2 (Ne.symm (ob_ar h42 h48)) (Ne.symm (ob_ar h45 h48)))).trans h48
              have h125 := (f117.1 q4 (nin2 (Ne.symm (ob_ar h42 h49)) (Ne.symm (ob_ar h45 h49)))).trans h49
              have h126 := (f117.1 q2 (nin2 (Ne.symm (ob_ar h42 h39)) (Ne.symm (ob_ar h45 h39)))).trans h39
              have h127 := (f117.1 q6 (nin2 (Ne.symm (ob_ar h42 h50)) (Ne.symm (ob_ar h45 h50)))).trans h50
              have hF128 := hF51.tr f117 (by simp)
              show pl _ _ _ (145, [(0, .ref r), (1, .int (nI k)), (2, .int (nI p)), (3, .int (nI (by1 f p)))], [.int 1], M113) _
              refine ps_if (S1 := (160, [], [], M113)) (S2 := (148, [(0, .ref r), (1, .int (nI k)), (2, .int (nI p)), (3, .int (nI (by1 f p)))], [], M113)) rfl rfl rfl (fun c_145 => ?_) (fun c_145 => ?_)
              · exact absurd (of_decide_eq_true c_145) (by decide)
              refine ps_st (S' := (149, [(0, .ref r), (1, .int (nI k)), (2, .int (nI p)), (3, .int (nI (by1 f p)))], [.ref r], M113)) rfl rfl rfl ?_
              refine ps_st (S' := (150, [(0, .ref r), (1, .int (nI k)), (2, .int (nI p)), (3, .int (nI (by1 f p)))], [.int 4, .ref r], M113)) rfl rfl rfl ?_
              refine pl_call (a := [.ref r, .int 4]) (rest := []) rfl rfl rfl (dx_takes4 h115 h119 h120 h116 (hn) (by omega)) (fun v129 M130 q131 => ?_)
              rcases q131 with q131 | q131
              · skip
                obtain ⟨q150_ok, rfl, h132, h133, f134⟩ := q131
                have h136 := (f134.1 b (nin2 (ob_ne h119 h115 (by decide)) (ob_ne h119 h116 (by decide)))).trans h119
                have h137 := (f134.1 da (nin2 (Ne.symm (ob_ar h115 h120)) (Ne.symm (ob_ar h116 h120)))).trans h120
                have h138 := (f134.1 c (nin2 (ob_ne h121 h115 (by decide)) (ob_ne h121 h116 (by decide)))).trans h121
                have h139 := (f134.1 pq (nin2 (ob_ne h122 h115 (by decide)) (ob_ne h122 h116 (by decide)))).trans h122
                have h140 := (f134.1 q1 (nin2 (Ne.symm (ob_ar h115 h123)) (Ne.symm (ob_ar h116 h123)))).trans h123
                have h141 := (f134.1 q3 (nin2 (Ne.symm (ob_ar h115 h124)) (Ne.symm (ob_ar h116 h124)))).trans h124
                have h142 := (f134.1 q4 (nin2 (Ne.symm (ob_ar h115 h125)) (Ne.symm (ob_ar h116 h125)))).trans h125
                have h143 := (f134.1 q2 (nin2 (Ne.symm (ob_ar h115 h126)) (Ne.symm (ob_ar h116 h126)))).trans h126
                have h144 := (f134.1 q6 (nin2 (Ne.symm (ob_ar h115 h127)) (Ne.symm (ob_ar h116 h127)))).trans h127
                have hF145 := hF128.tr f134 (by simp)
                show pl _ _ _ (153, [(0, .ref r), (1, .int (nI k)), (2, .int (nI p)), (3, .int (nI (by1 f p)))], [.int 1], M130) _
                refine ps_if (S1 := (160, [], [], M130)) (S2 := (156, [(0, .ref r), (1, .int (nI k)), (2, .int (nI p)), (3, .int (nI (by1 f p)))], [], M130)) rfl rfl rfl (fun c_153 => ?_) (fun c_153 => ?_)
                · exact absurd (of_decide_eq_true c_153) (by decide)
                refine ps_st (S' := (157, [(0, .ref r), (1, .int (nI k)), (2, .int (nI p)), (3, .int (nI (by1 f p)))], [.int 1], M130)) rfl rfl rfl ?_
                refine ps_st (S' := (161, [], [.int 1], M130)) rfl rfl rfl ?_
                exact ps_ret rfl rfl (Or.inr (Or.inl ⟨p + 9, _, by
                    unfold s_entry
                    rw [if_neg (by omega), if_neg (fun h => h (by assumption)), if_neg (by omega)]
                    repeat' split
                    all_goals first | rfl | (exfalso; omega), by omega, rfl, h140, h143, h132, h133, h139, h141, h142, h144, hF145⟩))
              · skip
                obtain ⟨q150_no, rfl, h146, h147, f148⟩ := q131
                have h150 := (f148.1 b (nin2 (ob_ne h119 h115 (by decide)) (ob_ne h119 h116 (by decide)))).trans h119
                have h151 := (f148.1 da (nin2 (Ne.symm (ob_ar h115 h120)) (Ne.symm (ob_ar h116 h120)))).trans h120
                have h152 := (f148.1 c (nin2 (ob_ne h121 h115 (by decide)) (ob_ne h121 h116 (by decide)))).trans h121
                have h153 := (f148.1 pq (nin2 (ob_ne h122 h115 (by decide)) (ob_ne h122 h116 (by decide)))).trans h122
                have h154 := (f148.1 q1 (nin2 (Ne.symm (ob_ar h115 h123)) (Ne.symm (ob_ar h116 h123)))).trans h123
                have h155 := (f148.1 q3 (nin2 (Ne.symm (ob_ar h115 h124)) (Ne.symm (ob_ar h116 h124)))).trans h124
                have h156 := (f148.1 q4 (nin2 (Ne.symm (ob_ar h115 h125)) (Ne.symm (ob_ar h116 h125)))).trans h125
                have h157 := (f148.1 q2 (nin2 (Ne.symm (ob_ar h115 h126)) (Ne.symm (ob_ar h116 h126)))).trans h126
                have h158 := (f148.1 q6 (nin2 (Ne.symm (ob_ar h115 h127)) (Ne.symm (ob_ar h116 h127)))).trans h127
                have hF159 := hF128.tr f148 (by simp)
                show pl _ _ _ (153, [(0, .ref r), (1, .int (nI k)), (2, .int (nI p)), (3, .int (nI (by1 f p)))], [.int 0], M130) _
                refine ps_if (S1 := (160, [], [], M130)) (S2 := (156, [(0, .ref r), (1, .int (nI k)), (2, .int (nI p)), (3, .int (nI (by1 f p)))], [], M130)) rfl rfl rfl (fun c_153 => ?_) (fun c_153 => ?_)
                rotate_left
                · exact absurd (by decide) (of_decide_eq_false c_153)
                refine ps_st (S' := (161, [], [.int 0], M130)) rfl rfl rfl ?_
                exact ps_ret rfl rfl (Or.inr (Or.inr (Or.inr ⟨(1, p + 5), by
                    unfold s_entry
                    rw [if_neg (by omega), if_neg (fun h => h (by assumption)), if_neg (by omega)]
                    repeat' split
                    all_goals first | rfl | (exfalso; omega), rfl, h147, hF159⟩)))
            · skip
              obtain ⟨q142_no, rfl, h160, h161, f162⟩ := q114
              have h164 := (f162.1 b (nin2 (ob_ne h43 h42 (by decide)) (ob_ne h43 h45 (by decide)))).trans h43
              have h165 := (f162.1 da (nin2 (Ne.symm (ob_ar h42 h44)) (Ne.symm (ob_ar h45 h44)))).trans h44
              have h166 := (f162.1 c (nin2 (ob_ne h46 h42 (by decide)) (ob_ne h46 h45 (by decide)))).trans h46
              have h167 := (f162.1 pq (nin2 (ob_ne h47 h42 (by decide)) (ob_ne h47 h45 (by decide)))).trans h47
              have h168 := (f162.1 q1 (nin2 (Ne.symm (ob_ar h42 h38)) (Ne.symm (ob_ar h45 h38)))).trans h38
              have h169 := (f162.1 q3 (nin2 (Ne.symm (ob_ar h42 h48)) (Ne.symm (ob_ar h45 h48)))).trans h48
              have h170 := (f162.1 q4 (nin2 (Ne.symm (ob_ar h42 h49)) (Ne.symm (ob_ar h45 h49)))).trans h49
              have h171 := (f162.1 q2 (nin2 (Ne.symm (ob_ar h42 h39)) (Ne.symm (ob_ar h45 h39)))).trans h39
              have h172 := (f162.1 q6 (nin2 (Ne.symm (ob_ar h42 h50)) (Ne.symm (ob_ar h45 h50)))).trans h50
              have hF173 := hF51.tr f162 (by simp)
              show pl _ _ _ (145, [(0, .ref r), (1, .int (nI k)), (2, .int (nI p)), (3, .int (nI (by1 f p)))], [.int 0], M113) _
              refine ps_if (S1 := (160, [], [], M113)) (S2 := (148, [(0, .ref r), (1, .int (nI k)), (2, .int (nI p)), (3, .int (nI (by1 f p)))], [], M113)) rfl rfl rfl (fun c_145 => ?_) (fun c_145 => ?_)
              rotate_left
              · exact absurd (by decide) (of_decide_eq_false c_145)
              refine ps_st (S' := (161, [], [.int 0], M113)) rfl rfl rfl ?_
              exact ps_ret rfl rfl (Or.inr (Or.inr (Or.inr ⟨(1, p + 1), by
                  unfold s_entry
                  rw [if_neg (by omega), if_neg (fun h => h (by assumption)), if_neg (by omega)]
                  repeat' split
                  all_goals first | rfl | (exfalso; omega), rfl, h161, hF173⟩)))
          · show pl _ _ _ (162, [(0, .ref r), (1, .int (nI k)), (2, .int (nI p)), (3, .int (nI (by1 f p)))], [], M36) _
            have m_90 := sw_nat (t := by1 f p) (by omega) et_90
            simp at m_90
            refine ps_st (S' := (163, [(0, .ref r), (1, .int (nI k)), (2, .int (nI p)), (3, .int (nI (by1 f p)))], [.ref r], M36)) rfl rfl rfl ?_
            refine ps_st (S' := (164, [(0, .ref r), (1, .int (nI k)), (2, .int (nI p)), (3, .int (nI (by1 f p)))], [.int (nI k), .ref r], M36)) rfl rfl rfl ?_
            refine ps_st (S' := (165, [(0, .ref r), (1, .int (nI k)), (2, .int (nI p)), (3, .int (nI (by1 f p)))], [.int (nI (by1 f p)), .int (nI k), .ref r], M36)) rfl rfl rfl ?_
            refine pl_call (a := [.ref r, .int (nI k), .int (nI (by1 f p))]) (rest := []) rfl rfl rfl (dx_takesIndexes h42 h43 h44 h45 h46 h47 h38 h48 h49 (hn) (by omega) (hD) (hh) (hk3 (by omega)) (by1_lt _ _)) (fun v174 M175 q176 => ?_)
            rcases q176 with q176 | q176
            · skip
              obtain ⟨p'177, x178, y179, it'180, q165_s, rfl, h181, h182, h183, h184, f185⟩ := q176
              have h187 := (f185.1 b (nin4 (ob_ne h43 h42 (by decide)) (ob_ne h43 h45 (by decide)) (ob_ar h43 h48) (ob_ar h43 h49))).trans h43
              have h188 := (f185.1 da (nin4 (Ne.symm (ob_ar h42 h44)) (Ne.symm (ob_ar h45 h44)) (ar_ne h44 h48 (by decide)) (ar_ne h44 h49 (by decide)))).trans h44
              have h189 := (f185.1 c (nin4 (ob_ne h46 h42 (by decide)) (ob_ne h46 h45 (by decide)) (ob_ar h46 h48) (ob_ar h46 h49))).trans h46
              have h190 := (f185.1 pq (nin4 (ob_ne h47 h42 (by decide)) (ob_ne h47 h45 (by decide)) (ob_ar h47 h48) (ob_ar h47 h49))).trans h47
              have h191 := (f185.1 q1 (nin4 (Ne.symm (ob_ar h42 h38)) (Ne.symm (ob_ar h45 h38)) hD.1.2.1 hD.1.2.2.1)).trans h38
              have h192 := (f185.1 q2 (nin4 (Ne.symm (ob_ar h42 h39)) (Ne.symm (ob_ar h45 h39)) hD.2.1.1 hD.2.1.2.1)).trans h39
              have h193 := (f185.1 q6 (nin4 (Ne.symm (ob_ar h42 h50)) (Ne.symm (ob_ar h45 h50)) (ar_ne h50 h48 (by decide)) (ar_ne h50 h49 (by decide)))).trans h50
              have hF194 := hF51.tr f185 (by simp)
              show pl _ _ _ (168, [(0, .ref r), (1, .int (nI k)), (2, .int (nI p)), (3, .int (nI (by1 f p)))], [.int 1], M175) _
              exact ps_ret rfl rfl (Or.inr (Or.inr (Or.inl ⟨_, _, _, _, by
                  unfold s_entry
                  rw [if_neg (by omega), if_neg (fun h => h (by assumption)), if_neg (by omega)]
                  rw [if_neg (by omega), if_neg (by omega), if_neg (by omega), q165_s], s_ix_le q165_s, rfl, h191, h192, h181, h182, h190, h183, h184, h193, hF194⟩)))
            · skip
              obtain ⟨e195, q165_s, rfl, h196, f197⟩ := q176
              have h199 := (f197.1 b (nin4 (ob_ne h43 h42 (by decide)) (ob_ne h43 h45 (by decide)) (ob_ar h43 h48) (ob_ar h43 h49))).trans h43
              have h200 := (f197.1 da (nin4 (Ne.symm (ob_ar h42 h44)) (Ne.symm (ob_ar h45 h44)) (ar_ne h44 h48 (by decide)) (ar_ne h44 h49 (by decide)))).trans h44
              have h201 := (f197.1 c (nin4 (ob_ne h46 h42 (by decide)) (ob_ne h46 h45 (by decide)) (ob_ar h46 h48) (ob_ar h46 h49))).trans h46
              have h202 := (f197.1 pq (nin4 (ob_ne h47 h42 (by decide)) (ob_ne h47 h45 (by decide)) (ob_ar h47 h48) (ob_ar h47 h49))).trans h47
              have h203 := (f197.1 q1 (nin4 (Ne.symm (ob_ar h42 h38)) (Ne.symm (ob_ar h45 h38)) hD.1.2.1 hD.1.2.2.1)).trans h38
              have h204 := (f197.1 q2 (nin4 (Ne.symm (ob_ar h42 h39)) (Ne.symm (ob_ar h45 h39)) hD.2.1.1 hD.2.1.2.1)).trans h39
              have h205 := (f197.1 q6 (nin4 (Ne.symm (ob_ar h42 h50)) (Ne.symm (ob_ar h45 h50)) (ar_ne h50 h48 (by decide)) (ar_ne h50 h49 (by decide)))).trans h50
              have hF206 := hF51.tr f197 (by simp)
              show pl _ _ _ (168, [(0, .ref r), (1, .int (nI k)), (2, .int (nI p)), (3, .int (nI (by1 f p)))], [.int 0], M175) _
              exact ps_ret rfl rfl (Or.inr (Or.inr (Or.inr ⟨_, by
                  unfold s_entry
                  rw [if_neg (by omega), if_neg (fun h => h (by assumption)), if_neg (by omega)]
                  rw [if_neg (by omega), if_neg (by omega), if_neg (by omega), q165_s], rfl, h196, hF206⟩)))
        · have c_62 : ¬ ((nI (k + 1)) < (nI N)) := of_decide_eq_false c_62
          have n_62 : ¬ (k + 1 < N) := fun h9 => c_62 ((lt_nI (p := k + 1) (n := N) (by omega) (by omega)).mpr h9)
          refine ps_st (S' := (66, [(0, .ref r), (1, .int (nI k)), (2, .int (nI p)), (3, .int (nI (by1 f p)))], [.ref r], M19)) rfl rfl rfl ?_
          refine ps_get (S' := (69, [(0, .ref r), (1, .int (nI k)), (2, .int (nI p)), (3, .int (nI (by1 f p)))], [.ref vd], M19)) rfl h23 rfl rfl ?_
          refine ps_st (S' := (71, [(0, .ref r), (1, .int (nI k)), (2, .int (nI p)), (3, .int (nI (by1 f p)))], [.int 7, .ref vd], M19)) rfl rfl rfl ?_
          refine ps_st (S' := (72, [(0, .ref r), (1, .int (nI k)), (2, .int (nI p)), (3, .int (nI (by1 f p)))], [.int (nI p), .int 7, .ref vd], M19)) rfl rfl rfl ?_
          refine pl_call (a := [.ref vd, .int 7, .int (nI p)]) (rest := []) rfl rfl rfl (dx_wrong h26) (fun v207 M208 q209 => ?_)
          obtain ⟨rfl, h210, f211⟩ := q209
          have h213 := (f211.1 r (nin1 (ob_ne h23 h26 (by decide)))).trans h23
          have h214 := (f211.1 b (nin1 (ob_ne h24 h26 (by decide)))).trans h24
          have h215 := (f211.1 da (nin1 (Ne.symm (ob_ar h26 h25)))).trans h25
          have h216 := (f211.1 c (nin1 (ob_ne h27 h26 (by decide)))).trans h27
          have h217 := (f211.1 pq (nin1 (ob_ne h28 h26 (by decide)))).trans h28
          have h218 := (f211.1 q1 (nin1 (Ne.symm (ob_ar h26 h29)))).trans h29
          have h219 := (f211.1 q3 (nin1 (Ne.symm (ob_ar h26 h30)))).trans h30
          have h220 := (f211.1 q4 (nin1 (Ne.symm (ob_ar h26 h31)))).trans h31
          have h221 := (f211.1 q2 (nin1 (Ne.symm (ob_ar h26 h32)))).trans h32
          have h222 := (f211.1 q6 (nin1 (Ne.symm (ob_ar h26 h33)))).trans h33
          have hF223 := hF34.tr f211 (by simp)
          show pl _ _ _ (75, [(0, .ref r), (1, .int (nI k)), (2, .int (nI p)), (3, .int (nI (by1 f p)))], [.int 0], M208) _
          exact ps_ret rfl rfl (Or.inr (Or.inr (Or.inr ⟨(7, p), by
              unfold s_entry
              rw [if_neg (by omega), if_neg (fun h => h (by assumption)), if_pos (by omega)], rfl, h210, hF223⟩)))
      · have c_40 : ¬ ((nI (by1 f p)) = 5) := of_decide_eq_false c_40
        have n_40 : ¬ (by1 f p = 5) := fun h9 => c_40 ((eq_nI (p := by1 f p) (n := 5) (Nat.lt_trans (by1_lt _ _) (by decide)) (by decide)).mpr h9)
        refine ps_st (S' := (44, [(3, .int (nI (by1 f p))), (2, .int (nI p)), (0, .ref r), (1, .int (nI k))], [.int (nI (by1 f p))], M19)) rfl rfl rfl ?_
        refine ps_st (S' := (46, [(3, .int (nI (by1 f p))), (2, .int (nI p)), (0, .ref r), (1, .int (nI k))], [.int 6, .int (nI (by1 f p))], M19)) rfl rfl rfl ?_
        refine ps_if2 (S1 := (76, [(0, .ref r), (1, .int (nI k)), (2, .int (nI p)), (3, .int (nI (by1 f p)))], [], M19)) (S2 := (49, [(0, .ref r), (1, .int (nI k)), (2, .int (nI p)), (3, .int (nI (by1 f p)))], [], M19)) rfl rfl rfl (fun c_46 => ?_) (fun c_46 => ?_)
        · have c_46 : ¬ (nI (by1 f p)) = 6 := of_decide_eq_true c_46
          have n_46 : ¬ (by1 f p = 6) := fun h9 => c_46 ((eq_nI (p := by1 f p) (n := 6) (Nat.lt_trans (by1_lt _ _) (by decide)) (by decide)).mpr h9)
          refine ps_st (S' := (77, [(0, .ref r), (1, .int (nI k)), (2, .int (nI p)), (3, .int (nI (by1 f p)))], [.ref r], M19)) rfl rfl rfl ?_
          refine ps_get (S' := (80, [(0, .ref r), (1, .int (nI k)), (2, .int (nI p)), (3, .int (nI (by1 f p)))], [.ref c], M19)) rfl h23 rfl rfl ?_
          refine ps_get (S' := (83, [(0, .ref r), (1, .int (nI k)), (2, .int (nI p)), (3, .int (nI (by1 f p)))], [.ref pq], M19)) rfl h27 rfl rfl ?_
          refine ps_st (S' := (84, [(0, .ref r), (1, .int (nI k)), (2, .int (nI p)), (3, .int (nI (by1 f p)))], [.int (nI k), .ref pq], M19)) rfl rfl rfl ?_
          refine ps_st (S' := (85, [(0, .ref r), (1, .int (nI k)), (2, .int (nI p)), (3, .int (nI (by1 f p)))], [.int (nI (by1 f p)), .int (nI k), .ref pq], M19)) rfl rfl rfl ?_
          refine ps_st (S' := (86, [(0, .ref r), (1, .int (nI k)), (2, .int (nI p)), (3, .int (nI (by1 f p)))], [.int (nI p), .int (nI (by1 f p)), .int (nI k), .ref pq], M19)) rfl rfl rfl ?_
          refine pl_call (a := [.ref pq, .int (nI k), .int (nI (by1 f p)), .int (nI p)]) (rest := []) rfl rfl rfl (dx_setTag h28 h29 h32 (hD) (hh) (hk3 (by omega))) (fun v224 M225 q226 => ?_)
          obtain ⟨rfl, h227, h228, f229⟩ := q226
          have h231 := (f229.1 r (nin2 (ob_ar h23 h29) (ob_ar h23 h32))).trans h23
          have h232 := (f229.1 b (nin2 (ob_ar h24 h29) (ob_ar h24 h32))).trans h24
          have h233 := (f229.1 da (nin2 (ar_ne h25 h29 (by decide)) (ar_ne h25 h32 (by decide)))).trans h25
          have h234 := (f229.1 vd (nin2 (ob_ar h26 h29) (ob_ar h26 h32))).trans h26
          have h235 := (f229.1 c (nin2 (ob_ar h27 h29) (ob_ar h27 h32))).trans h27
          have h236 := (f229.1 pq (nin2 (ob_ar h28 h29) (ob_ar h28 h32))).trans h28
          have h237 := (f229.1 q3 (nin2 (Ne.symm hD.1.2.1) (Ne.symm hD.2.1.1))).trans h30
          have h238 := (f229.1 q4 (nin2 (Ne.symm hD.1.2.2.1) (Ne.symm hD.2.1.2.1))).trans h31
          have h239 := (f229.1 q6 (nin2 (ar_ne h33 h29 (by decide)) (ar_ne h33 h32 (by decide)))).trans h33
          have hF240 := hF34.tr f229 (by simp)
          show pl _ _ _ (89, [(0, .ref r), (1, .int (nI k)), (2, .int (nI p)), (3, .int (nI (by1 f p)))], [], M225) _
          refine ps_st (S' := (90, [(0, .ref r), (1, .int (nI k)), (2, .int (nI p)), (3, .int (nI (by1 f p)))], [.int (nI (by1 f p))], M225)) rfl rfl rfl ?_
          refine pl_sw rfl (fun t_90 et_90 => ?_)
          have ht_90 : t_90 ∈ [128, 134, 140, 162] := mi_sw_sub et_90 (by decide)
          simp only [List.mem_cons, List.not_mem_nil, or_false] at ht_90
          rcases ht_90 with rfl | rfl | rfl | rfl
          · show pl _ _ _ (128, [(0, .ref r), (1, .int (nI k)), (2, .int (nI p)), (3, .int (nI (by1 f p)))], [], M225) _
            have m_90 := sw_nat (t := by1 f p) (by omega) et_90
            simp at m_90
            refine ps_st (S' := (129, [(0, .ref r), (1, .int (nI k)), (2, .int (nI p)), (3, .int (nI (by1 f p)))], [.ref r], M225)) rfl rfl rfl ?_
            refine ps_st (S' := (130, [(0, .ref r), (1, .int (nI k)), (2, .int (nI p)), (3, .int (nI (by1 f p)))], [.int (nI k), .ref r], M225)) rfl rfl rfl ?_
            refine pl_call (a := [.ref r, .int (nI k)]) (rest := []) rfl rfl rfl (dx_takesText h231 h232 h233 h234 h235 h236 h227 h237 h238 h239 (hn) (by omega) (hD) (hh) (hm) (hk3 (by omega)) (by omega)) (fun v241 M242 q243 => ?_)
            rcases q243 with q243 | q243
            · skip
              obtain ⟨l244, it'245, q130_s, q130_e, q130_c, rfl, h246, h247, h248, h249, h250, h251, f252⟩ := q243
              have h254 := (f252.1 b (nin6 (ob_ne h232 h231 (by decide)) (ob_ne h232 h234 (by decide)) (ob_ne h232 h236 (by decide)) (ob_ar h232 h237) (ob_ar h232 h238) (ob_ar h232 h239))).trans h232
              have h255 := (f252.1 da (nin6 (Ne.symm (ob_ar h231 h233)) (Ne.symm (ob_ar h234 h233)) (Ne.symm (ob_ar h236 h233)) (ar_ne h233 h237 (by decide)) (ar_ne h233 h238 (by decide)) (ar_ne h233 h239 (by decide)))).trans h233
              have h256 := (f252.1 c (nin6 (ob_ne h235 h231 (by decide)) (ob_ne h235 h234 (by decide)) (ob_ne h235 h236 (by decide)) (ob_ar h235 h237) (ob_ar h235 h238) (ob_ar h235 h239))).trans h235
              have h257 := (f252.1 q1 (nin6 (Ne.symm (ob_ar h231 h227)) (Ne.symm (ob_ar h234 h227)) (Ne.symm (ob_ar h236 h227)) hD.1.2.1 hD.1.2.2.1 (ar_ne h227 h239 (by decide)))).trans h227
              have h258 := (f252.1 q2 (nin6 (Ne.symm (ob_ar h231 h228)) (Ne.symm (ob_ar h234 h228)) (Ne.symm (ob_ar h236 h228)) hD.2.1.1 hD.2.1.2.1 (ar_ne h228 h239 (by decide)))).trans h228
              have hF259 := hF240.tr f252 (by simp)
              show pl _ _ _ (133, [(0, .ref r), (1, .int (nI k)), (2, .int (nI p)), (3, .int (nI (by1 f p)))], [.int 1], M242) _
              exact ps_ret rfl rfl (Or.inl ⟨_, l244, _, by
                  unfold s_entry
                  rw [if_neg (by omega), if_neg (fun h => h (by assumption)), if_neg (by omega)]
                  rw [if_pos (by omega), q130_s], by omega, by omega, rfl, h257, h258, h246, h247, h248, h249, h250, h251, hF259⟩)
            · skip
              obtain ⟨e260, q130_s, rfl, h261, f262⟩ := q243
              have h264 := (f262.1 b (nin6 (ob_ne h232 h231 (by decide)) (ob_ne h232 h234 (by decide)) (ob_ne h232 h236 (by decide)) (ob_ar h232 h237) (ob_ar h232 h238) (ob_ar h232 h239))).trans h232
              have h265 := (f262.1 da (nin6 (Ne.symm (ob_ar h231 h233)) (Ne.symm (ob_ar h234 h233)) (Ne.symm (ob_ar h236 h233)) (ar_ne h233 h237 (by decide)) (ar_ne h233 h238 (by decide)) (ar_ne h233 h239 (by decide)))).trans h233
              have h266 := (f262.1 c (nin6 (ob_ne h235 h231 (by decide)) (ob_ne h235 h234 (by decide)) (ob_ne h235 h236 (by decide)) (ob_ar h235 h237) (ob_ar h235 h238) (ob_ar h235 h239))).trans h235
              have h267 := (f262.1 q1 (nin6 (Ne.symm (ob_ar h231 h227)) (Ne.symm (ob_ar h234 h227)) (Ne.symm (ob_ar h236 h227)) hD.1.2.1 hD.1.2.2.1 (ar_ne h227 h239 (by decide)))).trans h227
              have h268 := (f262.1 q2 (nin6 (Ne.symm (ob_ar h231 h228)) (Ne.symm (ob_ar h234 h228)) (Ne.symm (ob_ar h236 h228)) hD.2.1.1 hD.2.1.2.1 (ar_ne h228 h239 (by decide)))).trans h228
              have hF269 := hF240.tr f262 (by simp)
              show pl _ _ _ (133, [(0, .ref r), (1, .int (nI k)), (2, .int (nI p)), (3, .int (nI (by1 f p)))], [.int 0], M242) _
              exact ps_ret rfl rfl (Or.inr (Or.inr (Or.inr ⟨_, by
                  unfold s_entry
                  rw [if_neg (by omega), if_neg (fun h => h (by assumption)), if_neg (by omega)]
                  rw [if_pos (by omega), q130_s], rfl, h261, hF269⟩)))
          · show pl _ _ _ (134, [(0, .ref r), (1, .int (nI k)), (2, .int (nI p)), (3, .int (nI (by1 f p)))], [], M225) _
            have m_90 := sw_nat (t := by1 f p) (by omega) et_90
            simp at m_90
            refine ps_st (S' := (135, [(0, .ref r), (1, .int (nI k)), (2, .int (nI p)), (3, .int (nI (by1 f p)))], [.ref r], M225)) rfl rfl rfl ?_
            refine ps_st (S' := (136, [(0, .ref r), (1, .int (nI k)), (2, .int (nI p)), (3, .int (nI (by1 f p)))], [.int 4, .ref r], M225)) rfl rfl rfl ?_
            refine pl_call (a := [.ref r, .int 4]) (rest := []) rfl rfl rfl (dx_takes4 h231 h232 h233 h234 (hn) (by omega)) (fun v270 M271 q272 => ?_)
            rcases q272 with q272 | q272
            · skip
              obtain ⟨q136_ok, rfl, h273, h274, f275⟩ := q272
              have h277 := (f275.1 b (nin2 (ob_ne h232 h231 (by decide)) (ob_ne h232 h234 (by decide)))).trans h232
              have h278 := (f275.1 da (nin2 (Ne.symm (ob_ar h231 h233)) (Ne.symm (ob_ar h234 h233)))).trans h233
              have h279 := (f275.1 c (nin2 (ob_ne h235 h231 (by decide)) (ob_ne h235 h234 (by decide)))).trans h235
              have h280 := (f275.1 pq (nin2 (ob_ne h236 h231 (by decide)) (ob_ne h236 h234 (by decide)))).trans h236
              have h281 := (f275.1 q1 (nin2 (Ne.symm (ob_ar h231 h227)) (Ne.symm (ob_ar h234 h227)))).trans h227
              have h282 := (f275.1 q3 (nin2 (Ne.symm (ob_ar h231 h237)) (Ne.symm (ob_ar h234 h237)))).trans h237
              have h283 := (f275.1 q4 (nin2 (Ne.symm (ob_ar h231 h238)) (Ne.symm (ob_ar h234 h238)))).trans h238
              have h284 := (f275.1 q2 (nin2 (Ne.symm (ob_ar h231 h228)) (Ne.symm (ob_ar h234 h228)))).trans h228
              have h285 := (f275.1 q6 (nin2 (Ne.symm (ob_ar h231 h239)) (Ne.symm (ob_ar h234 h239)))).trans h239
              have hF286 := hF240.tr f275 (by simp)
              show pl _ _ _ (139, [(0, .ref r), (1, .int (nI k)), (2, .int (nI p)), (3, .int (nI (by1 f p)))], [.int 1], M271) _
              exact ps_ret rfl rfl (Or.inr (Or.inl ⟨p + 5, _, by
                  unfold s_entry
                  rw [if_neg (by omega), if_neg (fun h => h (by assumption)), if_neg (by omega)]
                  repeat' split
                  all_goals first | rfl | (exfalso; omega), by omega, rfl, h281, h284, h273, h274, h280, h282, h283, h285, hF286⟩))
            · skip
              obtain ⟨q136_no, rfl, h287, h288, f289⟩ := q272
              have h291 := (f289.1 b (nin2 (ob_ne h232 h231 (by decide)) (ob_ne h232 h234 (by decide)))).trans h232
              have h292 := (f289.1 da (nin2 (Ne.symm (ob_ar h231 h233)) (Ne.symm (ob_ar h234 h233)))).trans h233
              have h293 := (f289.1 c (nin2 (ob_ne h235 h231 (by decide)) (ob_ne h235 h234 (by decide)))).trans h235
              have h294 := (f289.1 pq (nin2 (ob_ne h236 h231 (by decide)) (ob_ne h236 h234 (by decide)))).trans h236
              have h295 := (f289.1 q1 (nin2 (Ne.symm (ob_ar h231 h227)) (Ne.symm (ob_ar h234 h227)))).trans h227
              have h296 := (f289.1 q3 (nin2 (Ne.symm (ob_ar h231 h237)) (Ne.symm (ob_ar h234 h237)))).trans h237
              have h297 := (f289.1 q4 (nin2 (Ne.symm (ob_ar h231 h238)) (Ne.symm (ob_ar h234 h238)))).trans h238
              have h298 := (f289.1 q2 (nin2 (Ne.symm (ob_ar h231 h228)) (Ne.symm (ob_ar h234 h228)))).trans h228
              have h299 := (f289.1 q6 (nin2 (Ne.symm (ob_ar h231 h239)) (Ne.symm (ob_ar h234 h239)))).trans h239
              have hF300 := hF240.tr f289 (by simp)
              show pl _ _ _ (139, [(0, .ref r), (1, .int (nI k)), (2, .int (nI p)), (3, .int (nI (by1 f p)))], [.int 0], M271) _
              exact ps_ret rfl rfl (Or.inr (Or.inr (Or.inr ⟨(1, p + 1), by
                  unfold s_entry
                  rw [if_neg (by omega), if_neg (fun h => h (by assumption)), if_neg (by omega)]
                  repeat' split
                  all_goals first | rfl | (exfalso; omega), rfl, h288, hF300⟩)))
          · show pl _ _ _ (140, [(0, .ref r), (1, .int (nI k)), (2, .int (nI p)), (3, .int (nI (by1 f p)))], [], M225) _
            have m_90 := sw_nat (t := by1 f p) (by omega) et_90
            simp at m_90
            refine ps_st (S' := (141, [(0, .ref r), (1, .int (nI k)), (2, .int (nI p)), (3, .int (nI (by1 f p)))], [.ref r], M225)) rfl rfl rfl ?_
            refine ps_st (S' := (142, [(0, .ref r), (1, .int (nI k)), (2, .int (nI p)), (3, .int (nI (by1 f p)))], [.int 4, .ref r], M225)) rfl rfl rfl ?_
            refine pl_call (a := [.ref r, .int 4]) (rest := []) rfl rfl rfl (dx_takes4 h231 h232 h233 h234 (hn) (by omega)) (fun v301 M302 q303 => ?_)
            rcases q303 with q303 | q303
            · skip
              obtain ⟨q142_ok, rfl, h304, h305, f306⟩ := q303
              have h308 := (f306.1 b (nin2 (ob_ne h232 h231 (by decide)) (ob_ne h232 h234 (by decide)))).trans h232
              have h309 := (f306.1 da (nin2 (Ne.symm (ob_ar h231 h233)) (Ne.symm (ob_ar h234 h233)))).trans h233
              have h310 := (f306.1 c (nin2 (ob_ne h235 h231 (by decide)) (ob_ne h235 h234 (by decide)))).trans h235
              have h311 := (f306.1 pq (nin2 (ob_ne h236 h231 (by decide)) (ob_ne h236 h234 (by decide)))).trans h236
              have h312 := (f306.1 q1 (nin2 (Ne.symm (ob_ar h231 h227)) (Ne.symm (ob_ar h234 h227)))).trans h227
              have h313 := (f306.1 q3 (nin2 (Ne.symm (ob_ar h231 h237)) (Ne.symm (ob_ar h234 h237)))).trans h237
              have h314 := (f306.1 q4 (nin2 (Ne.symm (ob_ar h231 h238)) (Ne.symm (ob_ar h234 h238)))).trans h238
              have h315 := (f306.1 q2 (nin2 (Ne.symm (ob_ar h231 h228)) (Ne.symm (ob_ar h234 h228)))).trans h228
              have h316 := (f306.1 q6 (nin2 (Ne.symm (ob_ar h231 h239)) (Ne.symm (ob_ar h234 h239)))).trans h239
              have hF317 := hF240.tr f306 (by simp)
              show pl _ _ _ (145, [(0, .ref r), (1, .int (nI k)), (2, .int (nI p)), (3, .int (nI (by1 f p)))], [.int 1], M302) _
              refine ps_if (S1 := (160, [], [], M302)) (S2 := (148, [(0, .ref r), (1, .int (nI k)), (2, .int (nI p)), (3, .int (nI (by1 f p)))], [], M302)) rfl rfl rfl (fun c_145 => ?_) (fun c_145 => ?_)
              · exact absurd (of_decide_eq_true c_145) (by decide)
              refine ps_st (S' := (149, [(0, .ref r), (1, .int (nI k)), (2, .int (nI p)), (3, .int (nI (by1 f p)))], [.ref r], M302)) rfl rfl rfl ?_
              refine ps_st (S' := (150, [(0, .ref r), (1, .int (nI k)), (2, .int (nI p)), (3, .int (nI (by1 f p)))], [.int 4, .ref r], M302)) rfl rfl rfl ?_
              refine pl_call (a := [.ref r, .int 4]) (rest := []) rfl rfl rfl (dx_takes4 h304 h308 h309 h305 (hn) (by omega)) (fun v318 M319 q320 => ?_)
              rcases q320 with q320 | q320
              · skip
                obtain ⟨q150_ok, rfl, h321, h322, f323⟩ := q320
                have h325 := (f323.1 b (nin2 (ob_ne h308 h304 (by decide)) (ob_ne h308 h305 (by decide)))).trans h308
                have h326 := (f323.1 da (nin2 (Ne.symm (ob_ar h304 h309)) (Ne.symm (ob_ar h305 h309)))).trans h309
                have h327 := (f323.1 c (nin2 (ob_ne h310 h304 (by decide)) (ob_ne h310 h305 (by decide)))).trans h310
                have h328 := (f323.1 pq (nin2 (ob_ne h311 h304 (by decide)) (ob_ne h311 h305 (by decide)))).trans h311
                have h329 := (f323.1 q1 (nin2 (Ne.symm (ob_ar h304 h312)) (Ne.symm (ob_ar h305 h312)))).trans h312
                have h330 := (f323.1 q3 (nin2 (Ne.symm (ob_ar h304 h313)) (Ne.symm (ob_ar h305 h313)))).trans h313
                have h331 := (f323.1 q4 (nin2 (Ne.symm (ob_ar h304 h314)) (Ne.symm (ob_ar h305 h314)))).trans h314
                have h332 := (f323.1 q2 (nin2 (Ne.symm (ob_ar h304 h315)) (Ne.symm (ob_ar h305 h315)))).trans h315
                have h333 := (f323.1 q6 (nin2 (Ne.symm (ob_ar h304 h316)) (Ne.symm (ob_ar h305 h316)))).trans h316
                have hF334 := hF317.tr f323 (by simp)
                show pl _ _ _ (153, [(0, .ref r), (1, .int (nI k)), (2, .int (nI p)), (3, .int (nI (by1 f p)))], [.int 1], M319) _
                refine ps_if (S1 := (160, [], [], M319)) (S2 := (156, [(0, .ref r), (1, .int (nI k)), (2, .int (nI p)), (3, .int (nI (by1 f p)))], [], M319)) rfl rfl rfl (fun c_153 => ?_) (fun c_153 => ?_)
                · exact absurd (of_decide_eq_true c_153) (by decide)
                refine ps_st (S' := (157, [(0, .ref r), (1, .int (nI k)), (2, .int (nI p)), (3, .int (nI (by1 f p)))], [.int 1], M319)) rfl rfl rfl ?_
                refine ps_st (S' := (161, [], [.int 1], M319)) rfl rfl rfl ?_
                exact ps_ret rfl rfl (Or.inr (Or.inl ⟨p + 9, _, by
                    unfold s_entry
                    rw [if_neg (by omega), if_neg (fun h => h (by assumption)), if_neg (by omega)]
                    repeat' split
                    all_goals first | rfl | (exfalso; omega), by omega, rfl, h329, h332, h321, h322, h328, h330, h331, h333, hF334⟩))
              · skip
                obtain ⟨q150_no, rfl, h335, h336, f337⟩ := q320
                have h339 := (f337.1 b (nin2 (ob_ne h308 h304 (by decide)) (ob_ne h308 h305 (by decide)))).trans h308
                have h340 := (f337.1 da (nin2 (Ne.symm (ob_ar h304 h309)) (Ne.symm (ob_ar h305 h309)))).trans h309
                have h341 := (f337.1 c (nin2 (ob_ne h310 h304 (by decide)) (ob_ne h310 h305 (by decide)))).trans h310
                have h342 := (f337.1 pq (nin2 (ob_ne h311 h304 (by decide)) (ob_ne h311 h305 (by decide)))).trans h311
                have h343 := (f337.1 q1 (nin2 (Ne.symm (ob_ar h304 h312)) (Ne.symm (ob_ar h305 h312)))).trans h312
                have h344 := (f337.1 q3 (nin2 (Ne.symm (ob_ar h304 h313)) (Ne.symm (ob_ar h305 h313)))).trans h313
                have h345 := (f337.1 q4 (nin2 (Ne.symm (ob_ar h304 h314)) (Ne.symm (ob_ar h305 h314)))).trans h314
                have h346 := (f337.1 q2 (nin2 (Ne.symm (ob_ar h304 h315)) (Ne.symm (ob_ar h305 h315)))).trans h315
                have h347 := (f337.1 q6 (nin2 (Ne.symm (ob_ar h304 h316)) (Ne.symm (ob_ar h305 h316)))).trans h316
                have hF348 := hF317.tr f337 (by simp)
                show pl _ _ _ (153, [(0, .ref r), (1, .int (nI k)), (2, .int (nI p)), (3, .int (nI (by1 f p)))], [.int 0], M319) _
                refine ps_if (S1 := (160, [], [], M319)) (S2 := (156, [(0, .ref r), (1, .int (nI k)), (2, .int (nI p)), (3, .int (nI (by1 f p)))], [], M319)) rfl rfl rfl (fun c_153 => ?_) (fun c_153 => ?_)
                rotate_left
                · exact absurd (by decide) (of_decide_eq_false c_153)
                refine ps_st (S' := (161, [], [.int 0], M319)) rfl rfl rfl ?_
                exact ps_ret rfl rfl (Or.inr (Or.inr (Or.inr ⟨(1, p + 5), by
                    unfold s_entry
                    rw [if_neg (by omega), if_neg (fun h => h (by assumption)), if_neg (by omega)]
                    repeat' split
                    all_goals first | rfl | (exfalso; omega), rfl, h336, hF348⟩)))
            · skip
              obtain ⟨q142_no, rfl, h349, h350, f351⟩ := q303
              have h353 := (f351.1 b (nin2 (ob_ne h232 h231 (by decide)) (ob_ne h232 h234 (by decide)))).trans h232
              have h354 := (f351.1 da (nin2 (Ne.symm (ob_ar h231 h233)) (Ne.symm (ob_ar h234 h233)))).trans h233
              have h355 := (f351.1 c (nin2 (ob_ne h235 h231 (by decide)) (ob_ne h235 h234 (by decide)))).trans h235
              have h356 := (f351.1 pq (nin2 (ob_ne h236 h231 (by decide)) (ob_ne h236 h234 (by decide)))).trans h236
              have h357 := (f351.1 q1 (nin2 (Ne.symm (ob_ar h231 h227)) (Ne.symm (ob_ar h234 h227)))).trans h227
              have h358 := (f351.1 q3 (nin2 (Ne.symm (ob_ar h231 h237)) (Ne.symm (ob_ar h234 h237)))).trans h237
              have h359 := (f351.1 q4 (nin2 (Ne.symm (ob_ar h231 h238)) (Ne.symm (ob_ar h234 h238)))).trans h238
              have h360 := (f351.1 q2 (nin2 (Ne.symm (ob_ar h231 h228)) (Ne.symm (ob_ar h234 h228)))).trans h228
              have h361 := (f351.1 q6 (nin2 (Ne.symm (ob_ar h231 h239)) (Ne.symm (ob_ar h234 h239)))).trans h239
              have hF362 := hF240.tr f351 (by simp)
              show pl _ _ _ (145, [(0, .ref r), (1, .int (nI k)), (2, .int (nI p)), (3, .int (nI (by1 f p)))], [.int 0], M302) _
              refine ps_if (S1 := (160, [], [], M302)) (S2 := (148, [(0, .ref r), (1, .int (nI k)), (2, .int (nI p)), (3, .int (nI (by1 f p)))], [], M302)) rfl rfl rfl (fun c_145 => ?_) (fun c_145 => ?_)
              rotate_left
              · exact absurd (by decide) (of_decide_eq_false c_145)
              refine ps_st (S' := (161, [], [.int 0], M302)) rfl rfl rfl ?_
              exact ps_ret rfl rfl (Or.inr (Or.inr (Or.inr ⟨(1, p + 1), by
                  unfold s_entry
                  rw [if_neg (by omega), if_neg (fun h => h (by assumption)), if_neg (by omega)]
                  repeat' split
                  all_goals first | rfl | (exfalso; omega), rfl, h350, hF362⟩)))
          · show pl _ _ _ (162, [(0, .ref r), (1, .int (nI k)), (2, .int (nI p)), (3, .int (nI (by1 f p)))], [], M225) _
            have m_90 := sw_nat (t := by1 f p) (by omega) et_90
            simp at m_90
            refine ps_st (S' := (163, [(0, .ref r), (1, .int (nI k)), (2, .int (nI p)), (3, .int (nI (by1 f p)))], [.ref r], M225)) rfl rfl rfl ?_
            refine ps_st (S' := (164, [(0, .ref r), (1, .int (nI k)), (2, .int (nI p)), (3, .int (nI (by1 f p)))], [.int (nI k), .ref r], M225)) rfl rfl rfl ?_
            refine ps_st (S' := (165, [(0, .ref r), (1, .int (nI k)), (2, .int (nI p)), (3, .int (nI (by1 f p)))], [.int (nI (by1 f p)), .int (nI k), .ref r], M225)) rfl rfl rfl ?_
            refine pl_call (a := [.ref r, .int (nI k), .int (nI (by1 f p))]) (rest := []) rfl rfl rfl (dx_takesIndexes h231 h232 h233 h234 h235 h236 h227 h237 h238 (hn) (by omega) (hD) (hh) (hk3 (by omega)) (by1_lt _ _)) (fun v363 M364 q365 => ?_)
            rcases q365 with q365 | q365
            · skip
              obtain ⟨p'366, x367, y368, it'369, q165_s, rfl, h370, h371, h372, h373, f374⟩ := q365
              have h376 := (f374.1 b (nin4 (ob_ne h232 h231 (by decide)) (ob_ne h232 h234 (by decide)) (ob_ar h232 h237) (ob_ar h232 h238))).trans h232
              have h377 := (f374.1 da (nin4 (Ne.symm (ob_ar h231 h233)) (Ne.symm (ob_ar h234 h233)) (ar_ne h233 h237 (by decide)) (ar_ne h233 h238 (by decide)))).trans h233
              have h378 := (f374.1 c (nin4 (ob_ne h235 h231 (by decide)) (ob_ne h235 h234 (by decide)) (ob_ar h235 h237) (ob_ar h235 h238))).trans h235
              have h379 := (f374.1 pq (nin4 (ob_ne h236 h231 (by decide)) (ob_ne h236 h234 (by decide)) (ob_ar h236 h237) (ob_ar h236 h238))).trans h236
              have h380 := (f374.1 q1 (nin4 (Ne.symm (ob_ar h231 h227)) (Ne.symm (ob_ar h234 h227)) hD.1.2.1 hD.1.2.2.1)).trans h227
              have h381 := (f374.1 q2 (nin4 (Ne.symm (ob_ar h231 h228)) (Ne.symm (ob_ar h234 h228)) hD.2.1.1 hD.2.1.2.1)).trans h228
              have h382 := (f374.1 q6 (nin4 (Ne.symm (ob_ar h231 h239)) (Ne.symm (ob_ar h234 h239)) (ar_ne h239 h237 (by decide)) (ar_ne h239 h238 (by decide)))).trans h239
              have hF383 := hF240.tr f374 (by simp)
              show pl _ _ _ (168, [(0, .ref r), (1, .int (nI k)), (2, .int (nI p)), (3, .int (nI (by1 f p)))], [.int 1], M364) _
              exact ps_ret rfl rfl (Or.inr (Or.inr (Or.inl ⟨_, _, _, _, by
                  unfold s_entry
                  rw [if_neg (by omega), if_neg (fun h => h (by assumption)), if_neg (by omega)]
                  rw [if_neg (by omega), if_neg (by omega), if_neg (by omega), q165_s], s_ix_le q165_s, rfl, h380, h381, h370, h371, h379, h372, h373, h382, hF383⟩)))
            · skip
              obtain ⟨e384, q165_s, rfl, h385, f386⟩ := q365
              have h388 := (f386.1 b (nin4 (ob_ne h232 h231 (by decide)) (ob_ne h232 h234 (by decide)) (ob_ar h232 h237) (ob_ar h232 h238))).trans h232
              have h389 := (f386.1 da (nin4 (Ne.symm (ob_ar h231 h233)) (Ne.symm (ob_ar h234 h233)) (ar_ne h233 h237 (by decide)) (ar_ne h233 h238 (by decide)))).trans h233
              have h390 := (f386.1 c (nin4 (ob_ne h235 h231 (by decide)) (ob_ne h235 h234 (by decide)) (ob_ar h235 h237) (ob_ar h235 h238))).trans h235
              have h391 := (f386.1 pq (nin4 (ob_ne h236 h231 (by decide)) (ob_ne h236 h234 (by decide)) (ob_ar h236 h237) (ob_ar h236 h238))).trans h236
              have h392 := (f386.1 q1 (nin4 (Ne.symm (ob_ar h231 h227)) (Ne.symm (ob_ar h234 h227)) hD.1.2.1 hD.1.2.2.1)).trans h227
              have h393 := (f386.1 q2 (nin4 (Ne.symm (ob_ar h231 h228)) (Ne.symm (ob_ar h234 h228)) hD.2.1.1 hD.2.1.2.1)).trans h228
              have h394 := (f386.1 q6 (nin4 (Ne.symm (ob_ar h231 h239)) (Ne.symm (ob_ar h234 h239)) (ar_ne h239 h237 (by decide)) (ar_ne h239 h238 (by decide)))).trans h239
              have hF395 := hF240.tr f386 (by simp)
              show pl _ _ _ (168, [(0, .ref r), (1, .int (nI k)), (2, .int (nI p)), (3, .int (nI (by1 f p)))], [.int 0], M364) _
              exact ps_ret rfl rfl (Or.inr (Or.inr (Or.inr ⟨_, by
                  unfold s_entry
                  rw [if_neg (by omega), if_neg (fun h => h (by assumption)), if_neg (by omega)]
                  rw [if_neg (by omega), if_neg (by omega), if_neg (by omega), q165_s], rfl, h385, hF395⟩)))
        · have c_46 : ¬ (¬ (nI (by1 f p)) = 6) := of_decide_eq_false c_46
          have n_46 : by1 f p = 6 := (eq_nI (p := by1 f p) (n := 6) (Nat.lt_trans (by1_lt _ _) (by decide)) (by decide)).mp (Decidable.not_not.mp c_46)
          refine ps_st (S' := (50, [(0, .ref r), (1, .int (nI k)), (2, .int (nI p)), (3, .int (nI (by1 f p)))], [.int (nI k)], M19)) rfl rfl rfl ?_
          refine ps_st (S' := (51, [(0, .ref r), (1, .int (nI k)), (2, .int (nI p)), (3, .int (nI (by1 f p)))], [.int 1, .int (nI k)], M19)) rfl rfl rfl ?_
          refine ps_st (S' := (52, [(0, .ref r), (1, .int (nI k)), (2, .int (nI p)), (3, .int (nI (by1 f p)))], [.int ((nI k) + 1)], M19)) rfl rfl rfl ?_
          rw [nI_add1 (p := k) (k := 1) (x := 1) rfl (by omega)]
          show pl _ _ _ (_, [(0, .ref r), (1, .int (nI k)), (2, .int (nI p)), (3, .int (nI (by1 f p)))], [.int (nI (k + 1))], M19) _
          refine ps_st (S' := (53, [(0, .ref r), (1, .int (nI k)), (2, .int (nI p)), (3, .int (nI (by1 f p)))], [.ref r, .int (nI (k + 1))], M19)) rfl rfl rfl ?_
          refine ps_get (S' := (56, [(0, .ref r), (1, .int (nI k)), (2, .int (nI p)), (3, .int (nI (by1 f p)))], [.ref c, .int (nI (k + 1))], M19)) rfl h23 rfl rfl ?_
          refine ps_get (S' := (59, [(0, .ref r), (1, .int (nI k)), (2, .int (nI p)), (3, .int (nI (by1 f p)))], [.ref pq, .int (nI (k + 1))], M19)) rfl h27 rfl rfl ?_
          refine ps_get (S' := (62, [(0, .ref r), (1, .int (nI k)), (2, .int (nI p)), (3, .int (nI (by1 f p)))], [.int (nI N), .int (nI (k + 1))], M19)) rfl h28 rfl rfl ?_
          refine ps_if2 (S1 := (76, [(0, .ref r), (1, .int (nI k)), (2, .int (nI p)), (3, .int (nI (by1 f p)))], [], M19)) (S2 := (65, [(0, .ref r), (1, .int (nI k)), (2, .int (nI p)), (3, .int (nI (by1 f p)))], [], M19)) rfl rfl rfl (fun c_62 => ?_) (fun c_62 => ?_)
          · have c_62 : (nI (k + 1)) < (nI N) := of_decide_eq_true c_62
            have n_62 : k + 1 < N := (lt_nI (p := k + 1) (n := N) (by omega) (by omega)).mp c_62
            refine ps_st (S' := (77, [(0, .ref r), (1, .int (nI k)), (2, .int (nI p)), (3, .int (nI (by1 f p)))], [.ref r], M19)) rfl rfl rfl ?_
            refine ps_get (S' := (80, [(0, .ref r), (1, .int (nI k)), (2, .int (nI p)), (3, .int (nI (by1 f p)))], [.ref c], M19)) rfl h23 rfl rfl ?_
            refine ps_get (S' := (83, [(0, .ref r), (1, .int (nI k)), (2, .int (nI p)), (3, .int (nI (by1 f p)))], [.ref pq], M19)) rfl h27 rfl rfl ?_
            refine ps_st (S' := (84, [(0, .ref r), (1, .int (nI k)), (2, .int (nI p)), (3, .int (nI (by1 f p)))], [.int (nI k), .ref pq], M19)) rfl rfl rfl ?_
            refine ps_st (S' := (85, [(0, .ref r), (1, .int (nI k)), (2, .int (nI p)), (3, .int (nI (by1 f p)))], [.int (nI (by1 f p)), .int (nI k), .ref pq], M19)) rfl rfl rfl ?_
            refine ps_st (S' := (86, [(0, .ref r), (1, .int (nI k)), (2, .int (nI p)), (3, .int (nI (by1 f p)))], [.int (nI p), .int (nI (by1 f p)), .int (nI k), .ref pq], M19)) rfl rfl rfl ?_
            refine pl_call (a := [.ref pq, .int (nI k), .int (nI (by1 f p)), .int (nI p)]) (rest := []) rfl rfl rfl (dx_setTag h28 h29 h32 (hD) (hh) (hk3 (by omega))) (fun v396 M397 q398 => ?_)
            obtain ⟨rfl, h399, h400, f401⟩ := q398
            have h403 := (f401.1 r (nin2 (ob_ar h23 h29) (ob_ar h23 h32))).trans h23
            have h404 := (f401.1 b (nin2 (ob_ar h24 h29) (ob_ar h24 h32))).trans h24
            have h405 := (f401.1 da (nin2 (ar_ne h25 h29 (by decide)) (ar_ne h25 h32 (by decide)))).trans h25
            have h406 := (f401.1 vd (nin2 (ob_ar h26 h29) (ob_ar h26 h32))).trans h26
            have h407 := (f401.1 c (nin2 (ob_ar h27 h29) (ob_ar h27 h32))).trans h27
            have h408 := (f401.1 pq (nin2 (ob_ar h28 h29) (ob_ar h28 h32))).trans h28
            have h409 := (f401.1 q3 (nin2 (Ne.symm hD.1.2.1) (Ne.symm hD.2.1.1))).trans h30
            have h410 := (f401.1 q4 (nin2 (Ne.symm hD.1.2.2.1) (Ne.symm hD.2.1.2.1))).trans h31
            have h411 := (f401.1 q6 (nin2 (ar_ne h33 h29 (by decide)) (ar_ne h33 h32 (by decide)))).trans h33
            have hF412 := hF34.tr f401 (by simp)
            show pl _ _ _ (89, [(0, .ref r), (1, .int (nI k)), (2, .int (nI p)), (3, .int (nI (by1 f p)))], [], M397) _
            refine ps_st (S' := (90, [(0, .ref r), (1, .int (nI k)), (2, .int (nI p)), (3, .int (nI (by1 f p)))], [.int (nI (by1 f p))], M397)) rfl rfl rfl ?_
            refine pl_sw rfl (fun t_90 et_90 => ?_)
            have ht_90 : t_90 ∈ [128, 134, 140, 162] := mi_sw_sub et_90 (by decide)
            simp only [List.mem_cons, List.not_mem_nil, or_false] at ht_90
            rcases ht_90 with rfl | rfl | rfl | rfl
            · show pl _ _ _ (128, [(0, .ref r), (1, .int (nI k)), (2, .int (nI p)), (3, .int (nI (by1 f p)))], [], M397) _
              have m_90 := sw_nat (t := by1 f p) (by omega) et_90
              simp at m_90
              refine ps_st (S' := (129, [(0, .ref r), (1, .int (nI k)), (2, .int (nI p)), (3, .int (nI (by1 f p)))], [.ref r], M397)) rfl rfl rfl ?_
              refine ps_st (S' := (130, [(0, .ref r), (1, .int (nI k)), (2, .int (nI p)), (3, .int (nI (by1 f p)))], [.int (nI k), .ref r], M397)) rfl rfl rfl ?_
              refine pl_call (a := [.ref r, .int (nI k)]) (rest := []) rfl rfl rfl (dx_takesText h403 h404 h405 h406 h407 h408 h399 h409 h410 h411 (hn) (by omega) (hD) (hh) (hm) (hk3 (by omega)) (by omega)) (fun v413 M414 q415 => ?_)
              rcases q415 with q415 | q415
              · skip
                obtain ⟨l416, it'417, q130_s, q130_e, q130_c, rfl, h418, h419, h420, h421, h422, h423, f424⟩ := q415
                have h426 := (f424.1 b (nin6 (ob_ne h404 h403 (by decide)) (ob_ne h404 h406 (by decide)) (ob_ne h404 h408 (by decide)) (ob_ar h404 h409) (ob_ar h404 h410) (ob_ar h404 h411))).trans h404
                have h427 := (f424.1 da (nin6 (Ne.symm (ob_ar h403 h405)) (Ne.symm (ob_ar h406 h405)) (Ne.symm (ob_ar h408 h405)) (ar_ne h405 h409 (by decide)) (ar_ne h405 h410 (by decide)) (ar_ne h405 h411 (by decide)))).trans h405
                have h428 := (f424.1 c (nin6 (ob_ne h407 h403 (by decide)) (ob_ne h407 h406 (by decide)) (ob_ne h407 h408 (by decide)) (ob_ar h407 h409) (ob_ar h407 h410) (ob_ar h407 h411))).trans h407
                have h429 := (f424.1 q1 (nin6 (Ne.symm (ob_ar h403 h399)) (Ne.symm (ob_ar h406 h399)) (Ne.symm (ob_ar h408 h399)) hD.1.2.1 hD.1.2.2.1 (ar_ne h399 h411 (by decide)))).trans h399
                have h430 := (f424.1 q2 (nin6 (Ne.symm (ob_ar h403 h400)) (Ne.symm (ob_ar h406 h400)) (Ne.symm (ob_ar h408 h400)) hD.2.1.1 hD.2.1.2.1 (ar_ne h400 h411 (by decide)))).trans h400
                have hF431 := hF412.tr f424 (by simp)
                show pl _ _ _ (133, [(0, .ref r), (1, .int (nI k)), (2, .int (nI p)), (3, .int (nI (by1 f p)))], [.int 1], M414) _
                exact ps_ret rfl rfl (Or.inl ⟨_, l416, _, by
                    unfold s_entry
                    rw [if_neg (by omega), if_neg (fun h => h (by assumption)), if_neg (by omega)]
                    rw [if_pos (by omega), q130_s], by omega, by omega, rfl, h429, h430, h418, h419, h420, h421, h422, h423, hF431⟩)
              · skip
                obtain ⟨e432, q130_s, rfl, h433, f434⟩ := q415
                have h436 := (f434.1 b (nin6 (ob_ne h404 h403 (by decide)) (ob_ne h404 h406 (by decide)) (ob_ne h404 h408 (by decide)) (ob_ar h404 h409) (ob_ar h404 h410) (ob_ar h404 h411))).trans h404
                have h437 := (f434.1 da (nin6 (Ne.symm (ob_ar h403 h405)) (Ne.symm (ob_ar h406 h405)) (Ne.symm (ob_ar h408 h405)) (ar_ne h405 h409 (by decide)) (ar_ne h405 h410 (by decide)) (ar_ne h405 h411 (by decide)))).trans h405
                have h438 := (f434.1 c (nin6 (ob_ne h407 h403 (by decide)) (ob_ne h407 h406 (by decide)) (ob_ne h407 h408 (by decide)) (ob_ar h407 h409) (ob_ar h407 h410) (ob_ar h407 h411))).trans h407
                have h439 := (f434.1 q1 (nin6 (Ne.symm (ob_ar h403 h399)) (Ne.symm (ob_ar h406 h399)) (Ne.symm (ob_ar h408 h399)) hD.1.2.1 hD.1.2.2.1 (ar_ne h399 h411 (by decide)))).trans h399
                have h440 := (f434.1 q2 (nin6 (Ne.symm (ob_ar h403 h400)) (Ne.symm (ob_ar h406 h400)) (Ne.symm (ob_ar h408 h400)) hD.2.1.1 hD.2.1.2.1 (ar_ne h400 h411 (by decide)))).trans h400
                have hF441 := hF412.tr f434 (by simp)
                show pl _ _ _ (133, [(0, .ref r), (1, .int (nI k)), (2, .int (nI p)), (3, .int (nI (by1 f p)))], [.int 0], M414) _
                exact ps_ret rfl rfl (Or.inr (Or.inr (Or.inr ⟨_, by
                    unfold s_entry
                    rw [if_neg (by omega), if_neg (fun h => h (by assumption)), if_neg (by omega)]
                    rw [if_pos (by omega), q130_s], rfl, h433, hF441⟩)))
            · show pl _ _ _ (134, [(0, .ref r), (1, .int (nI k)), (2, .int (nI p)), (3, .int (nI (by1 f p)))], [], M397) _
              have m_90 := sw_nat (t := by1 f p) (by omega) et_90
              simp at m_90
              refine ps_st (S' := (135, [(0, .ref r), (1, .int (nI k)), (2, .int (nI p)), (3, .int (nI (by1 f p)))], [.ref r], M397)) rfl rfl rfl ?_
              refine ps_st (S' := (136, [(0, .ref r), (1, .int (nI k)), (2, .int (nI p)), (3, .int (nI (by1 f p)))], [.int 4, .ref r], M397)) rfl rfl rfl ?_
              refine pl_call (a := [.ref r, .int 4]) (rest := []) rfl rfl rfl (dx_takes4 h403 h404 h405 h406 (hn) (by omega)) (fun v442 M443 q444 => ?_)
              rcases q444 with q444 | q444
              · skip
                obtain ⟨q136_ok, rfl, h445, h446, f447⟩ := q444
                have h449 := (f447.1 b (nin2 (ob_ne h404 h403 (by decide)) (ob_ne h404 h406 (by decide)))).trans h404
                have h450 := (f447.1 da (nin2 (Ne.symm (ob_ar h403 h405)) (Ne.symm (ob_ar h406 h405)))).trans h405
                have h451 := (f447.1 c (nin2 (ob_ne h407 h403 (by decide)) (ob_ne h407 h406 (by decide)))).trans h407
                have h452 := (f447.1 pq (nin2 (ob_ne h408 h403 (by decide)) (ob_ne h408 h406 (by decide)))).trans h408
                have h453 := (f447.1 q1 (nin2 (Ne.symm (ob_ar h403 h399)) (Ne.symm (ob_ar h406 h399)))).trans h399
                have h454 := (f447.1 q3 (nin2 (Ne.symm (ob_ar h403 h409)) (Ne.symm (ob_ar h406 h409)))).trans h409
                have h455 := (f447.1 q4 (nin2 (Ne.symm (ob_ar h403 h410)) (Ne.symm (ob_ar h406 h410)))).trans h410
                have h456 := (f447.1 q2 (nin2 (Ne.symm (ob_ar h403 h400)) (Ne.symm (ob_ar h406 h400)))).trans h400
                have h457 := (f447.1 q6 (nin2 (Ne.symm (ob_ar h403 h411)) (Ne.symm (ob_ar h406 h411)))).trans h411
                have hF458 := hF412.tr f447 (by simp)
                show pl _ _ _ (139, [(0, .ref r), (1, .int (nI k)), (2, .int (nI p)), (3, .int (nI (by1 f p)))], [.int 1], M443) _
                exact ps_ret rfl rfl (Or.inr (Or.inl ⟨p + 5, _, by
                    unfold s_entry
                    rw [if_neg (by omega), if_neg (fun h => h (by assumption)), if_neg (by omega)]
                    repeat' split
                    all_goals first | rfl | (exfalso; omega), by omega, rfl, h453, h456, h445, h446, h452, h454, h455, h457, hF458⟩))
              · skip
                obtain ⟨q136_no, rfl, h459, h460, f461⟩ := q444
                have h463 := (f461.1 b (nin2 (ob_ne h404 h403 (by decide)) (ob_ne h404 h406 (by decide)))).trans h404
                have h464 := (f461.1 da (nin2 (Ne.symm (ob_ar h403 h405)) (Ne.symm (ob_ar h406 h405)))).trans h405
                have h465 := (f461.1 c (nin2 (ob_ne h407 h403 (by decide)) (ob_ne h407 h406 (by decide)))).trans h407
                have h466 := (f461.1 pq (nin2 (ob_ne h408 h403 (by decide)) (ob_ne h408 h406 (by decide)))).trans h408
                have h467 := (f461.1 q1 (nin2 (Ne.symm (ob_ar h403 h399)) (Ne.symm (ob_ar h406 h399)))).trans h399
                have h468 := (f461.1 q3 (nin2 (Ne.symm (ob_ar h403 h409)) (Ne.symm (ob_ar h406 h409)))).trans h409
                have h469 := (f461.1 q4 (nin2 (Ne.symm (ob_ar h403 h410)) (Ne.symm (ob_ar h406 h410)))).trans h410
                have h470 := (f461.1 q2 (nin2 (Ne.symm (ob_ar h403 h400)) (Ne.symm (ob_ar h406 h400)))).trans h400
                have h471 := (f461.1 q6 (nin2 (Ne.symm (ob_ar h403 h411)) (Ne.symm (ob_ar h406 h411)))).trans h411
                have hF472 := hF412.tr f461 (by simp)
                show pl _ _ _ (139, [(0, .ref r), (1, .int (nI k)), (2, .int (nI p)), (3, .int (nI (by1 f p)))], [.int 0], M443) _
                exact ps_ret rfl rfl (Or.inr (Or.inr (Or.inr ⟨(1, p + 1), by
                    unfold s_entry
                    rw [if_neg (by omega), if_neg (fun h => h (by assumption)), if_neg (by omega)]
                    repeat' split
                    all_goals first | rfl | (exfalso; omega), rfl, h460, hF472⟩)))
            · show pl _ _ _ (140, [(0, .ref r), (1, .int (nI k)), (2, .int (nI p)), (3, .int (nI (by1 f p)))], [], M397) _
              have m_90 := sw_nat (t := by1 f p) (by omega) et_90
              simp at m_90
              refine ps_st (S' := (141, [(0, .ref r), (1, .int (nI k)), (2, .int (nI p)), (3, .int (nI (by1 f p)))], [.ref r], M397)) rfl rfl rfl ?_
              refine ps_st (S' := (142, [(0, .ref r), (1, .int (nI k)), (2, .int (nI p)), (3, .int (nI (by1 f p)))], [.int 4, .ref r], M397)) rfl rfl rfl ?_
              refine pl_call (a := [.ref r, .int 4]) (rest := []) rfl rfl rfl (dx_takes4 h403 h404 h405 h406 (hn) (by omega)) (fun v473 M474 q475 => ?_)
              rcases q475 with q475 | q475
              · skip
                obtain ⟨q142_ok, rfl, h476, h477, f478⟩ := q475
                have h480 := (f478.1 b (nin2 (ob_ne h404 h403 (by decide)) (ob_ne h404 h406 (by decide)))).trans h404
                have h481 := (f478.1 da (nin2 (Ne.symm (ob_ar h403 h405)) (Ne.symm (ob_ar h406 h405)))).trans h405
                have h482 := (f478.1 c (nin2 (ob_ne h407 h403 (by decide)) (ob_ne h407 h406 (by decide)))).trans h407
                have h483 := (f478.1 pq (nin2 (ob_ne h408 h403 (by decide)) (ob_ne h408 h406 (by decide)))).trans h408
                have h484 := (f478.1 q1 (nin2 (Ne.symm (ob_ar h403 h399)) (Ne.symm (ob_ar h406 h399)))).trans h399
                have h485 := (f478.1 q3 (nin2 (Ne.symm (ob_ar h403 h409)) (Ne.symm (ob_ar h406 h409)))).trans h409
                have h486 := (f478.1 q4 (nin2 (Ne.symm (ob_ar h403 h410)) (Ne.symm (ob_ar h406 h410)))).trans h410
                have h487 := (f478.1 q2 (nin2 (Ne.symm (ob_ar h403 h400)) (Ne.symm (ob_ar h406 h400)))).trans h400
                have h488 := (f478.1 q6 (nin2 (Ne.symm (ob_ar h403 h411)) (Ne.symm (ob_ar h406 h411)))).trans h411
                have hF489 := hF412.tr f478 (by simp)
                show pl _ _ _ (145, [(0, .ref r), (1, .int (nI k)), (2, .int (nI p)), (3, .int (nI (by1 f p)))], [.int 1], M474) _
                refine ps_if (S1 := (160, [], [], M474)) (S2 := (148, [(0, .ref r), (1, .int (nI k)), (2, .int (nI p)), (3, .int (nI (by1 f p)))], [], M474)) rfl rfl rfl (fun c_145 => ?_) (fun c_145 => ?_)
                · exact absurd (of_decide_eq_true c_145) (by decide)
                refine ps_st (S' := (149, [(0, .ref r), (1, .int (nI k)), (2, .int (nI p)), (3, .int (nI (by1 f p)))], [.ref r], M474)) rfl rfl rfl ?_
                refine ps_st (S' := (150, [(0, .ref r), (1, .int (nI k)), (2, .int (nI p)), (3, .int (nI (by1 f p)))], [.int 4, .ref r], M474)) rfl rfl rfl ?_
                refine pl_call (a := [.ref r, .int 4]) (rest := []) rfl rfl rfl (dx_takes4 h476 h480 h481 h477 (hn) (by omega)) (fun v490 M491 q492 => ?_)
                rcases q492 with q492 | q492
                · skip
                  obtain ⟨q150_ok, rfl, h493, h494, f495⟩ := q492
                  have h497 := (f495.1 b (nin2 (ob_ne h480 h476 (by decide)) (ob_ne h480 h477 (by decide)))).trans h480
                  have h498 := (f495.1 da (nin2 (Ne.symm (ob_ar h476 h481)) (Ne.symm (ob_ar h477 h481)))).trans h481
                  have h499 := (f495.1 c (nin2 (ob_ne h482 h476 (by decide)) (ob_ne h482 h477 (by decide)))).trans h482
                  have h500 := (f495.1 pq (nin2 (ob_ne h483 h476 (by decide)) (ob_ne h483 h477 (by decide)))).trans h483
                  have h501 := (f495.1 q1 (nin2 (Ne.symm (ob_ar h476 h484)) (Ne.symm (ob_ar h477 h484)))).trans h484
                  have h502 := (f495.1 q3 (nin2 (Ne.symm (ob_ar h476 h485)) (Ne.symm (ob_ar h477 h485)))).trans h485
                  have h503 := (f495.1 q4 (nin2 (Ne.symm (ob_ar h476 h486)) (Ne.symm (ob_ar h477 h486)))).trans h486
                  have h504 := (f495.1 q2 (nin2 (Ne.symm (ob_ar h476 h487)) (Ne.symm (ob_ar h477 h487)))).trans h487
                  have h505 := (f495.1 q6 (nin2 (Ne.symm (ob_ar h476 h488)) (Ne.symm (ob_ar h477 h488)))).trans h488
                  have hF506 := hF489.tr f495 (by simp)
                  show pl _ _ _ (153, [(0, .ref r), (1, .int (nI k)), (2, .int (nI p)), (3, .int (nI (by1 f p)))], [.int 1], M491) _
                  refine ps_if (S1 := (160, [], [], M491)) (S2 := (156, [(0, .ref r), (1, .int (nI k)), (2, .int (nI p)), (3, .int (nI (by1 f p)))], [], M491)) rfl rfl rfl (fun c_153 => ?_) (fun c_153 => ?_)
                  · exact absurd (of_decide_eq_true c_153) (by decide)
                  refine ps_st (S' := (157, [(0, .ref r), (1, .int (nI k)), (2, .int (nI p)), (3, .int (nI (by1 f p)))], [.int 1], M491)) rfl rfl rfl ?_
                  refine ps_st (S' := (161, [], [.int 1], M491)) rfl rfl rfl ?_
                  exact ps_ret rfl rfl (Or.inr (Or.inl ⟨p + 9, _, by
                      unfold s_entry
                      rw [if_neg (by omega), if_neg (fun h => h (by assumption)), if_neg (by omega)]
                      repeat' split
                      all_goals first | rfl | (exfalso; omega), by omega, rfl, h501, h504, h493, h494, h500, h502, h503, h505, hF506⟩))
                · skip
                  obtain ⟨q150_no, rfl, h507, h508, f509⟩ := q492
                  have h511 := (f509.1 b (nin2 (ob_ne h480 h476 (by decide)) (ob_ne h480 h477 (by decide)))).trans h480
                  have h512 := (f509.1 da (nin2 (Ne.symm (ob_ar h476 h481)) (Ne.symm (ob_ar h477 h481)))).trans h481
                  have h513 := (f509.1 c (nin2 (ob_ne h482 h476 (by decide)) (ob_ne h482 h477 (by decide)))).trans h482
                  have h514 := (f509.1 pq (nin2 (ob_ne h483 h476 (by decide)) (ob_ne h483 h477 (by decide)))).trans h483
                  have h515 := (f509.1 q1 (nin2 (Ne.symm (ob_ar h476 h484)) (Ne.symm (ob_ar h477 h484)))).trans h484
                  have h516 := (f509.1 q3 (nin2 (Ne.symm (ob_ar h476 h485)) (Ne.symm (ob_ar h477 h485)))).trans h485
                  have h517 := (f509.1 q4 (nin2 (Ne.symm (ob_ar h476 h486)) (Ne.symm (ob_ar h477 h486)))).trans h486
                  have h518 := (f509.1 q2 (nin2 (Ne.symm (ob_ar h476 h487)) (Ne.symm (ob_ar h477 h487)))).trans h487
                  have h519 := (f509.1 q6 (nin2 (Ne.symm (ob_ar h476 h488)) (Ne.symm (ob_ar h477 h488)))).trans h488
                  have hF520 := hF489.tr f509 (by simp)
                  show pl _ _ _ (153, [(0, .ref r), (1, .int (nI k)), (2, .int (nI p)), (3, .int (nI (by1 f p)))], [.int 0], M491) _
                  refine ps_if (S1 := (160, [], [], M491)) (S2 := (156, [(0, .ref r), (1, .int (nI k)), (2, .int (nI p)), (3, .int (nI (by1 f p)))], [], M491)) rfl rfl rfl (fun c_153 => ?_) (fun c_153 => ?_)
                  rotate_left
                  · exact absurd (by decide) (of_decide_eq_false c_153)
                  refine ps_st (S' := (161, [], [.int 0], M491)) rfl rfl rfl ?_
                  exact ps_ret rfl rfl (Or.inr (Or.inr (Or.inr ⟨(1, p + 5), by
                      unfold s_entry
                      rw [if_neg (by omega), if_neg (fun h => h (by assumption)), if_neg (by omega)]
                      repeat' split
                      all_goals first | rfl | (exfalso; omega), rfl, h508, hF520⟩)))
              · skip
                obtain ⟨q142_no, rfl, h521, h522, f523⟩ := q475
                have h525 := (f523.1 b (nin2 (ob_ne h404 h403 (by decide)) (ob_ne h404 h406 (by decide)))).trans h404
                have h526 := (f523.1 da (nin2 (Ne.symm (ob_ar h403 h405)) (Ne.symm (ob_ar h406 h405)))).trans h405
                have h527 := (f523.1 c (nin2 (ob_ne h407 h403 (by decide)) (ob_ne h407 h406 (by decide)))).trans h407
                have h528 := (f523.1 pq (nin2 (ob_ne h408 h403 (by decide)) (ob_ne h408 h406 (by decide)))).trans h408
                have h529 := (f523.1 q1 (nin2 (Ne.symm (ob_ar h403 h399)) (Ne.symm (ob_ar h406 h399)))).trans h399
                have h530 := (f523.1 q3 (nin2 (Ne.symm (ob_ar h403 h409)) (Ne.symm (ob_ar h406 h409)))).trans h409
                have h531 := (f523.1 q4 (nin2 (Ne.symm (ob_ar h403 h410)) (Ne.symm (ob_ar h406 h410)))).trans h410
                have h532 := (f523.1 q2 (nin2 (Ne.symm (ob_ar h403 h400)) (Ne.symm (ob_ar h406 h400)))).trans h400
                have h533 := (f523.1 q6 (nin2 (Ne.symm (ob_ar h403 h411)) (Ne.symm (ob_ar h406 h411)))).trans h411
                have hF534 := hF412.tr f523 (by simp)
                show pl _ _ _ (145, [(0, .ref r), (1, .int (nI k)), (2, .int (nI p)), (3, .int (nI (by1 f p)))], [.int 0], M474) _
                refine ps_if (S1 := (160, [], [], M474)) (S2 := (148, [(0, .ref r), (1, .int (nI k)), (2, .int (nI p)), (3, .int (nI (by1 f p)))], [], M474)) rfl rfl rfl (fun c_145 => ?_) (fun c_145 => ?_)
                rotate_left
                · exact absurd (by decide) (of_decide_eq_false c_145)
                refine ps_st (S' := (161, [], [.int 0], M474)) rfl rfl rfl ?_
                exact ps_ret rfl rfl (Or.inr (Or.inr (Or.inr ⟨(1, p + 1), by
                    unfold s_entry
                    rw [if_neg (by omega), if_neg (fun h => h (by assumption)), if_neg (by omega)]
                    repeat' split
                    all_goals first | rfl | (exfalso; omega), rfl, h522, hF534⟩)))
            · show pl _ _ _ (162, [(0, .ref r), (1, .int (nI k)), (2, .int (nI p)), (3, .int (nI (by1 f p)))], [], M397) _
              have m_90 := sw_nat (t := by1 f p) (by omega) et_90
              simp at m_90
              refine ps_st (S' := (163, [(0, .ref r), (1, .int (nI k)), (2, .int (nI p)), (3, .int (nI (by1 f p)))], [.ref r], M397)) rfl rfl rfl ?_
              refine ps_st (S' := (164, [(0, .ref r), (1, .int (nI k)), (2, .int (nI p)), (3, .int (nI (by1 f p)))], [.int (nI k), .ref r], M397)) rfl rfl rfl ?_
              refine ps_st (S' := (165, [(0, .ref r), (1, .int (nI k)), (2, .int (nI p)), (3, .int (nI (by1 f p)))], [.int (nI (by1 f p)), .int (nI k), .ref r], M397)) rfl rfl rfl ?_
              refine pl_call (a := [.ref r, .int (nI k), .int (nI (by1 f p))]) (rest := []) rfl rfl rfl (dx_takesIndexes h403 h404 h405 h406 h407 h408 h399 h409 h410 (hn) (by omega) (hD) (hh) (hk3 (by omega)) (by1_lt _ _)) (fun v535 M536 q537 => ?_)
              rcases q537 with q537 | q537
              · skip
                obtain ⟨p'538, x539, y540, it'541, q165_s, rfl, h542, h543, h544, h545, f546⟩ := q537
                have h548 := (f546.1 b (nin4 (ob_ne h404 h403 (by decide)) (ob_ne h404 h406 (by decide)) (ob_ar h404 h409) (ob_ar h404 h410))).trans h404
                have h549 := (f546.1 da (nin4 (Ne.symm (ob_ar h403 h405)) (Ne.symm (ob_ar h406 h405)) (ar_ne h405 h409 (by decide)) (ar_ne h405 h410 (by decide)))).trans h405
                have h550 := (f546.1 c (nin4 (ob_ne h407 h403 (by decide)) (ob_ne h407 h406 (by decide)) (ob_ar h407 h409) (ob_ar h407 h410))).trans h407
                have h551 := (f546.1 pq (nin4 (ob_ne h408 h403 (by decide)) (ob_ne h408 h406 (by decide)) (ob_ar h408 h409) (ob_ar h408 h410))).trans h408
                have h552 := (f546.1 q1 (nin4 (Ne.symm (ob_ar h403 h399)) (Ne.symm (ob_ar h406 h399)) hD.1.2.1 hD.1.2.2.1)).trans h399
                have h553 := (f546.1 q2 (nin4 (Ne.symm (ob_ar h403 h400)) (Ne.symm (ob_ar h406 h400)) hD.2.1.1 hD.2.1.2.1)).trans h400
                have h554 := (f546.1 q6 (nin4 (Ne.symm (ob_ar h403 h411)) (Ne.symm (ob_ar h406 h411)) (ar_ne h411 h409 (by decide)) (ar_ne h411 h410 (by decide)))).trans h411
                have hF555 := hF412.tr f546 (by simp)
                show pl _ _ _ (168, [(0, .ref r), (1, .int (nI k)), (2, .int (nI p)), (3, .int (nI (by1 f p)))], [.int 1], M536) _
                exact ps_ret rfl rfl (Or.inr (Or.inr (Or.inl ⟨_, _, _, _, by
                    unfold s_entry
                    rw [if_neg (by omega), if_neg (fun h => h (by assumption)), if_neg (by omega)]
                    rw [if_neg (by omega), if_neg (by omega), if_neg (by omega), q165_s], s_ix_le q165_s, rfl, h552, h553, h542, h543, h551, h544, h545, h554, hF555⟩)))
              · skip
                obtain ⟨e556, q165_s, rfl, h557, f558⟩ := q537
                have h560 := (f558.1 b (nin4 (ob_ne h404 h403 (by decide)) (ob_ne h404 h406 (by decide)) (ob_ar h404 h409) (ob_ar h404 h410))).trans h404
                have h561 := (f558.1 da (nin4 (Ne.symm (ob_ar h403 h405)) (Ne.symm (ob_ar h406 h405)) (ar_ne h405 h409 (by decide)) (ar_ne h405 h410 (by decide)))).trans h405
                have h562 := (f558.1 c (nin4 (ob_ne h407 h403 (by decide)) (ob_ne h407 h406 (by decide)) (ob_ar h407 h409) (ob_ar h407 h410))).trans h407
                have h563 := (f558.1 pq (nin4 (ob_ne h408 h403 (by decide)) (ob_ne h408 h406 (by decide)) (ob_ar h408 h409) (ob_ar h408 h410))).trans h408
                have h564 := (f558.1 q1 (nin4 (Ne.symm (ob_ar h403 h399)) (Ne.symm (ob_ar h406 h399)) hD.1.2.1 hD.1.2.2.1)).trans h399
                have h565 := (f558.1 q2 (nin4 (Ne.symm (ob_ar h403 h400)) (Ne.symm (ob_ar h406 h400)) hD.2.1.1 hD.2.1.2.1)).trans h400
                have h566 := (f558.1 q6 (nin4 (Ne.symm (ob_ar h403 h411)) (Ne.symm (ob_ar h406 h411)) (ar_ne h411 h409 (by decide)) (ar_ne h411 h410 (by decide)))).trans h411
                have hF567 := hF412.tr f558 (by simp)
                show pl _ _ _ (168, [(0, .ref r), (1, .int (nI k)), (2, .int (nI p)), (3, .int (nI (by1 f p)))], [.int 0], M536) _
                exact ps_ret rfl rfl (Or.inr (Or.inr (Or.inr ⟨_, by
                    unfold s_entry
                    rw [if_neg (by omega), if_neg (fun h => h (by assumption)), if_neg (by omega)]
                    rw [if_neg (by omega), if_neg (by omega), if_neg (by omega), q165_s], rfl, h557, hF567⟩)))
          · have c_62 : ¬ ((nI (k + 1)) < (nI N)) := of_decide_eq_false c_62
            have n_62 : ¬ (k + 1 < N) := fun h9 => c_62 ((lt_nI (p := k + 1) (n := N) (by omega) (by omega)).mpr h9)
            refine ps_st (S' := (66, [(0, .ref r), (1, .int (nI k)), (2, .int (nI p)), (3, .int (nI (by1 f p)))], [.ref r], M19)) rfl rfl rfl ?_
            refine ps_get (S' := (69, [(0, .ref r), (1, .int (nI k)), (2, .int (nI p)), (3, .int (nI (by1 f p)))], [.ref vd], M19)) rfl h23 rfl rfl ?_
            refine ps_st (S' := (71, [(0, .ref r), (1, .int (nI k)), (2, .int (nI p)), (3, .int (nI (by1 f p)))], [.int 7, .ref vd], M19)) rfl rfl rfl ?_
            refine ps_st (S' := (72, [(0, .ref r), (1, .int (nI k)), (2, .int (nI p)), (3, .int (nI (by1 f p)))], [.int (nI p), .int 7, .ref vd], M19)) rfl rfl rfl ?_
            refine pl_call (a := [.ref vd, .int 7, .int (nI p)]) (rest := []) rfl rfl rfl (dx_wrong h26) (fun v568 M569 q570 => ?_)
            obtain ⟨rfl, h571, f572⟩ := q570
            have h574 := (f572.1 r (nin1 (ob_ne h23 h26 (by decide)))).trans h23
            have h575 := (f572.1 b (nin1 (ob_ne h24 h26 (by decide)))).trans h24
            have h576 := (f572.1 da (nin1 (Ne.symm (ob_ar h26 h25)))).trans h25
            have h577 := (f572.1 c (nin1 (ob_ne h27 h26 (by decide)))).trans h27
            have h578 := (f572.1 pq (nin1 (ob_ne h28 h26 (by decide)))).trans h28
            have h579 := (f572.1 q1 (nin1 (Ne.symm (ob_ar h26 h29)))).trans h29
            have h580 := (f572.1 q3 (nin1 (Ne.symm (ob_ar h26 h30)))).trans h30
            have h581 := (f572.1 q4 (nin1 (Ne.symm (ob_ar h26 h31)))).trans h31
            have h582 := (f572.1 q2 (nin1 (Ne.symm (ob_ar h26 h32)))).trans h32
            have h583 := (f572.1 q6 (nin1 (Ne.symm (ob_ar h26 h33)))).trans h33
            have hF584 := hF34.tr f572 (by simp)
            show pl _ _ _ (75, [(0, .ref r), (1, .int (nI k)), (2, .int (nI p)), (3, .int (nI (by1 f p)))], [.int 0], M569) _
            exact ps_ret rfl rfl (Or.inr (Or.inr (Or.inr ⟨(7, p), by
                unfold s_entry
                rw [if_neg (by omega), if_neg (fun h => h (by assumption)), if_pos (by omega)], rfl, h571, hF584⟩)))
    · skip
      obtain ⟨q22_n, rfl, f585⟩ := q20
      have h587 := (f585.1 r (by simp)).trans h4
      have h588 := (f585.1 b (by simp)).trans h8
      have h589 := (f585.1 da (by simp)).trans h9
      have h590 := (f585.1 vd (by simp)).trans h5
      have h591 := (f585.1 c (by simp)).trans h10
      have h592 := (f585.1 pq (by simp)).trans h11
      have h593 := (f585.1 q1 (by simp)).trans h12
      have h594 := (f585.1 q3 (by simp)).trans h13
      have h595 := (f585.1 q4 (by simp)).trans h14
      have h596 := (f585.1 q2 (by simp)).trans h15
      have h597 := (f585.1 q6 (by simp)).trans h16
      have hF598 := hF17.tr f585 (by simp)
      show pl _ _ _ (25, [(3, .int (nI (by1 f p))), (2, .int (nI p)), (0, .ref r), (1, .int (nI k))], [.int 0], M19) _
      refine ps_if (S1 := (38, [(3, .int (nI (by1 f p))), (2, .int (nI p)), (0, .ref r), (1, .int (nI k))], [], M19)) (S2 := (28, [(3, .int (nI (by1 f p))), (2, .int (nI p)), (0, .ref r), (1, .int (nI k))], [], M19)) rfl rfl rfl (fun c_25 => ?_) (fun c_25 => ?_)
      · exact absurd (of_decide_eq_true c_25) (by decide)
      refine ps_st (S' := (29, [(3, .int (nI (by1 f p))), (2, .int (nI p)), (0, .ref r), (1, .int (nI k))], [.ref r], M19)) rfl rfl rfl ?_
      refine ps_get (S' := (32, [(3, .int (nI (by1 f p))), (2, .int (nI p)), (0, .ref r), (1, .int (nI k))], [.ref vd], M19)) rfl h587 rfl rfl ?_
      refine ps_st (S' := (33, [(3, .int (nI (by1 f p))), (2, .int (nI p)), (0, .ref r), (1, .int (nI k))], [.int 5, .ref vd], M19)) rfl rfl rfl ?_
      refine ps_st (S' := (34, [(3, .int (nI (by1 f p))), (2, .int (nI p)), (0, .ref r), (1, .int (nI k))], [.int (nI p), .int 5, .ref vd], M19)) rfl rfl rfl ?_
      refine pl_call (a := [.ref vd, .int 5, .int (nI p)]) (rest := []) rfl rfl rfl (dx_wrong h590) (fun v599 M600 q601 => ?_)
      obtain ⟨rfl, h602, f603⟩ := q601
      have h605 := (f603.1 r (nin1 (ob_ne h587 h590 (by decide)))).trans h587
      have h606 := (f603.1 b (nin1 (ob_ne h588 h590 (by decide)))).trans h588
      have h607 := (f603.1 da (nin1 (Ne.symm (ob_ar h590 h589)))).trans h589
      have h608 := (f603.1 c (nin1 (ob_ne h591 h590 (by decide)))).trans h591
      have h609 := (f603.1 pq (nin1 (ob_ne h592 h590 (by decide)))).trans h592
      have h610 := (f603.1 q1 (nin1 (Ne.symm (ob_ar h590 h593)))).trans h593
      have h611 := (f603.1 q3 (nin1 (Ne.symm (ob_ar h590 h594)))).trans h594
      have h612 := (f603.1 q4 (nin1 (Ne.symm (ob_ar h590 h595)))).trans h595
      have h613 := (f603.1 q2 (nin1 (Ne.symm (ob_ar h590 h596)))).trans h596
      have h614 := (f603.1 q6 (nin1 (Ne.symm (ob_ar h590 h597)))).trans h597
      have hF615 := hF598.tr f603 (by simp)
      show pl _ _ _ (37, [(3, .int (nI (by1 f p))), (2, .int (nI p)), (0, .ref r), (1, .int (nI k))], [.int 0], M600) _
      exact ps_ret rfl rfl (Or.inr (Or.inr (Or.inr ⟨(5, p), by
          unfold s_entry
          rw [if_neg (by omega), if_pos (by assumption)], rfl, h602, hF615⟩)))
  · skip
    obtain ⟨q7_no, rfl, h616, h617, f618⟩ := q3
    have h620 := (f618.1 b (nin2 (ob_ne h_b h_r (by decide)) (ob_ne h_b h_vd (by decide)))).trans h_b
    have h621 := (f618.1 da (nin2 (Ne.symm (ob_ar h_r h_da)) (Ne.symm (ob_ar h_vd h_da)))).trans h_da
    have h622 := (f618.1 c (nin2 (ob_ne h_c h_r (by decide)) (ob_ne h_c h_vd (by decide)))).trans h_c
    have h623 := (f618.1 pq (nin2 (ob_ne h_pq h_r (by decide)) (ob_ne h_pq h_vd (by decide)))).trans h_pq
    have h624 := (f618.1 q1 (nin2 (Ne.symm (ob_ar h_r h_q1)) (Ne.symm (ob_ar h_vd h_q1)))).trans h_q1
    have h625 := (f618.1 q3 (nin2 (Ne.symm (ob_ar h_r h_q3)) (Ne.symm (ob_ar h_vd h_q3)))).trans h_q3
    have h626 := (f618.1 q4 (nin2 (Ne.symm (ob_ar h_r h_q4)) (Ne.symm (ob_ar h_vd h_q4)))).trans h_q4
    have h627 := (f618.1 q2 (nin2 (Ne.symm (ob_ar h_r h_q2)) (Ne.symm (ob_ar h_vd h_q2)))).trans h_q2
    have h628 := (f618.1 q6 (nin2 (Ne.symm (ob_ar h_r h_q6)) (Ne.symm (ob_ar h_vd h_q6)))).trans h_q6
    have hF629 := hF.tr f618 (by simp)
    show pl _ _ _ (10, [(2, .int (nI p)), (0, .ref r), (1, .int (nI k))], [.int 0], M2) _
    refine ps_if (S1 := (15, [(2, .int (nI p)), (0, .ref r), (1, .int (nI k))], [], M2)) (S2 := (13, [(2, .int (nI p)), (0, .ref r), (1, .int (nI k))], [], M2)) rfl rfl rfl (fun c_10 => ?_) (fun c_10 => ?_)
    · exact absurd (of_decide_eq_true c_10) (by decide)
    refine ps_st (S' := (14, [(2, .int (nI p)), (0, .ref r), (1, .int (nI k))], [.int 0], M2)) rfl rfl rfl ?_
    exact ps_ret rfl rfl (Or.inr (Or.inr (Or.inr ⟨(1, p), by
        unfold s_entry
        rw [if_pos (by omega)], rfl, h617, hF629⟩)))
