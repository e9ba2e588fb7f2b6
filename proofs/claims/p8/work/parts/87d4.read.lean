section
/-! entries of the pool are read (laid by wip/p4/d4.py) -/
set_option maxHeartbeats 1000000 in
theorem dx_isTag {g : xe_G} {M : mi_H} {r c b vd mj t pq p : Nat} {it mi fa ic ac aa k1 k2 k3 k4 k5 k6 k7 : Int32} {u6 u7 : Value} (h_r : M.1 r = some (ob 9 [.ref c, .ref b, .ref vd, .int (nI p), .int it])) (h_c : M.1 c = some (ob 3 [.ref b, .ref pq, .int mi, .int (nI mj), .int fa, .int ic, u6, u7, .int ac, .int aa, .int k1, .int k2, .int k3, .int k4, .int k5, .int k6, .int k7])) (ht : t < 256) (hj : mj < 65536) : pt (mT g) 157 [.ref r, .int (nI t)] M (fun v M' => ((tgOk mj t) ∧ v = some (.int 1) ∧ fm [] M M') ∨ ((¬ tgOk mj t) ∧ v = some (.int 0) ∧ fm [] M M')) := by
  refine pt_in (b := mb_157 g) rfl (fun kf => ?_)
  show pl (mT g) kf (mb_157 g).2 (0, [(0, .ref r), (1, .int (nI t))], [], M) _
  have hF : fm [] M M := fm.rf
  refine ps_st (S' := (1, [(0, .ref r), (1, .int (nI t))], [.int (nI t)], M)) rfl rfl rfl ?_
  refine pl_sw rfl (fun t_1 et_1 => ?_)
  have ht_1 : t_1 ∈ [40, 58, 76, 94] := mi_sw_sub et_1 (by decide)
  simp only [List.mem_cons, List.not_mem_nil, or_false] at ht_1
  rcases ht_1 with rfl | rfl | rfl | rfl
  · show pl _ _ _ (40, [(0, .ref r), (1, .int (nI t))], [], M) _
    have m_1 := sw_nat (t := t) (by omega) et_1
    simp at m_1
    refine ps_st (S' := (41, [(0, .ref r), (1, .int (nI t))], [.ref r], M)) rfl rfl rfl ?_
    refine ps_get (S' := (44, [(0, .ref r), (1, .int (nI t))], [.ref c], M)) rfl h_r rfl rfl ?_
    refine ps_get (S' := (47, [(0, .ref r), (1, .int (nI t))], [.int (nI mj)], M)) rfl h_c rfl rfl ?_
    refine ps_st (S' := (49, [(0, .ref r), (1, .int (nI t))], [.int 51, .int (nI mj)], M)) rfl rfl rfl ?_
    refine ps_if2 (S1 := (56, [(0, .ref r), (1, .int (nI t))], [], M)) (S2 := (52, [(0, .ref r), (1, .int (nI t))], [], M)) rfl rfl rfl (fun c_49 => ?_) (fun c_49 => ?_)
    · have c_49 : (nI mj) < 51 := of_decide_eq_true c_49
      have n_49 : mj < 51 := (lt_nI (p := mj) (n := 51) (by omega) (by decide)).mp c_49
      refine ps_st (S' := (57, [], [.int 0], M)) rfl rfl rfl ?_
      exact ps_ret rfl rfl (Or.inr ⟨by
          unfold tgOk
          omega, rfl, hF⟩)
    · have c_49 : ¬ ((nI mj) < 51) := of_decide_eq_false c_49
      have n_49 : ¬ (mj < 51) := fun h9 => c_49 ((lt_nI (p := mj) (n := 51) (by omega) (by decide)).mpr h9)
      refine ps_st (S' := (53, [(0, .ref r), (1, .int (nI t))], [.int 1], M)) rfl rfl rfl ?_
      refine ps_st (S' := (57, [], [.int 1], M)) rfl rfl rfl ?_
      exact ps_ret rfl rfl (Or.inl ⟨by
          unfold tgOk
          omega, rfl, hF⟩)
  · show pl _ _ _ (58, [(0, .ref r), (1, .int (nI t))], [], M) _
    have m_1 := sw_nat (t := t) (by omega) et_1
    simp at m_1
    refine ps_st (S' := (59, [(0, .ref r), (1, .int (nI t))], [.ref r], M)) rfl rfl rfl ?_
    refine ps_get (S' := (62, [(0, .ref r), (1, .int (nI t))], [.ref c], M)) rfl h_r rfl rfl ?_
    refine ps_get (S' := (65, [(0, .ref r), (1, .int (nI t))], [.int (nI mj)], M)) rfl h_c rfl rfl ?_
    refine ps_st (S' := (67, [(0, .ref r), (1, .int (nI t))], [.int 53, .int (nI mj)], M)) rfl rfl rfl ?_
    refine ps_if2 (S1 := (74, [(0, .ref r), (1, .int (nI t))], [], M)) (S2 := (70, [(0, .ref r), (1, .int (nI t))], [], M)) rfl rfl rfl (fun c_67 => ?_) (fun c_67 => ?_)
    · have c_67 : (nI mj) < 53 := of_decide_eq_true c_67
      have n_67 : mj < 53 := (lt_nI (p := mj) (n := 53) (by omega) (by decide)).mp c_67
      refine ps_st (S' := (75, [], [.int 0], M)) rfl rfl rfl ?_
      exact ps_ret rfl rfl (Or.inr ⟨by
          unfold tgOk
          omega, rfl, hF⟩)
    · have c_67 : ¬ ((nI mj) < 53) := of_decide_eq_false c_67
      have n_67 : ¬ (mj < 53) := fun h9 => c_67 ((lt_nI (p := mj) (n := 53) (by omega) (by decide)).mpr h9)
      refine ps_st (S' := (71, [(0, .ref r), (1, .int (nI t))], [.int 1], M)) rfl rfl rfl ?_
      refine ps_st (S' := (75, [], [.int 1], M)) rfl rfl rfl ?_
      exact ps_ret rfl rfl (Or.inl ⟨by
          unfold tgOk
          omega, rfl, hF⟩)
  · show pl _ _ _ (76, [(0, .ref r), (1, .int (nI t))], [], M) _
    have m_1 := sw_nat (t := t) (by omega) et_1
    simp at m_1
    refine ps_st (S' := (77, [(0, .ref r), (1, .int (nI t))], [.ref r], M)) rfl rfl rfl ?_
    refine ps_get (S' := (80, [(0, .ref r), (1, .int (nI t))], [.ref c], M)) rfl h_r rfl rfl ?_
    refine ps_get (S' := (83, [(0, .ref r), (1, .int (nI t))], [.int (nI mj)], M)) rfl h_c rfl rfl ?_
    refine ps_st (S' := (85, [(0, .ref r), (1, .int (nI t))], [.int 55, .int (nI mj)], M)) rfl rfl rfl ?_
    refine ps_if2 (S1 := (92, [(0, .ref r), (1, .int (nI t))], [], M)) (S2 := (88, [(0, .ref r), (1, .int (nI t))], [], M)) rfl rfl rfl (fun c_85 => ?_) (fun c_85 => ?_)
    · have c_85 : (nI mj) < 55 := of_decide_eq_true c_85
      have n_85 : mj < 55 := (lt_nI (p := mj) (n := 55) (by omega) (by decide)).mp c_85
      refine ps_st (S' := (93, [], [.int 0], M)) rfl rfl rfl ?_
      exact ps_ret rfl rfl (Or.inr ⟨by
          unfold tgOk
          omega, rfl, hF⟩)
    · have c_85 : ¬ ((nI mj) < 55) := of_decide_eq_false c_85
      have n_85 : ¬ (mj < 55) := fun h9 => c_85 ((lt_nI (p := mj) (n := 55) (by omega) (by decide)).mpr h9)
      refine ps_st (S' := (89, [(0, .ref r), (1, .int (nI t))], [.int 1], M)) rfl rfl rfl ?_
      refine ps_st (S' := (93, [], [.int 1], M)) rfl rfl rfl ?_
      exact ps_ret rfl rfl (Or.inl ⟨by
          unfold tgOk
          omega, rfl, hF⟩)
  · show pl _ _ _ (94, [(0, .ref r), (1, .int (nI t))], [], M) _
    have m_1 := sw_nat (t := t) (by omega) et_1
    simp at m_1
    refine ps_st (S' := (95, [(0, .ref r), (1, .int (nI t))], [.int (nI t)], M)) rfl rfl rfl ?_
    refine ps_st (S' := (96, [(0, .ref r), (1, .int (nI t))], [.int 1, .int (nI t)], M)) rfl rfl rfl ?_
    refine ps_if2 (S1 := (110, [], [], M)) (S2 := (99, [(0, .ref r), (1, .int (nI t))], [], M)) rfl rfl rfl (fun c_96 => ?_) (fun c_96 => ?_)
    · have c_96 : (nI t) = 1 := of_decide_eq_true c_96
      have n_96 : t = 1 := (eq_nI (p := t) (n := 1) (by omega) (by decide)).mp c_96
      refine ps_st (S' := (111, [], [.int 1], M)) rfl rfl rfl ?_
      refine ps_st (S' := (115, [], [.int 1], M)) rfl rfl rfl ?_
      exact ps_ret rfl rfl (Or.inl ⟨by
          unfold tgOk
          omega, rfl, hF⟩)
    · have c_96 : ¬ ((nI t) = 1) := of_decide_eq_false c_96
      have n_96 : ¬ (t = 1) := fun h9 => c_96 ((eq_nI (p := t) (n := 1) (by omega) (by decide)).mpr h9)
      refine ps_st (S' := (100, [(0, .ref r), (1, .int (nI t))], [.int (nI t)], M)) rfl rfl rfl ?_
      refine ps_st (S' := (101, [(0, .ref r), (1, .int (nI t))], [.int 3, .int (nI t)], M)) rfl rfl rfl ?_
      refine ps_if2 (S1 := (114, [], [], M)) (S2 := (104, [(0, .ref r), (1, .int (nI t))], [], M)) rfl rfl rfl (fun c_101 => ?_) (fun c_101 => ?_)
      · have c_101 : (nI t) < 3 := of_decide_eq_true c_101
        have n_101 : t < 3 := (lt_nI (p := t) (n := 3) (by omega) (by decide)).mp c_101
        refine ps_st (S' := (115, [], [.int 0], M)) rfl rfl rfl ?_
        exact ps_ret rfl rfl (Or.inr ⟨by
            unfold tgOk
            omega, rfl, hF⟩)
      · have c_101 : ¬ ((nI t) < 3) := of_decide_eq_false c_101
        have n_101 : ¬ (t < 3) := fun h9 => c_101 ((lt_nI (p := t) (n := 3) (by omega) (by decide)).mpr h9)
        refine ps_st (S' := (105, [(0, .ref r), (1, .int (nI t))], [.int (nI t)], M)) rfl rfl rfl ?_
        refine ps_st (S' := (107, [(0, .ref r), (1, .int (nI t))], [.int 12, .int (nI t)], M)) rfl rfl rfl ?_
        refine ps_if2 (S1 := (114, [], [], M)) (S2 := (110, [], [], M)) rfl rfl rfl (fun c_107 => ?_) (fun c_107 => ?_)
        · have c_107 : 12 < (nI t) := of_decide_eq_true c_107
          have n_107 : 12 < t := (lt_nI (p := 12) (n := t) (by decide) (by omega)).mp c_107
          refine ps_st (S' := (115, [], [.int 0], M)) rfl rfl rfl ?_
          exact ps_ret rfl rfl (Or.inr ⟨by
              unfold tgOk
              omega, rfl, hF⟩)
        · have c_107 : ¬ (12 < (nI t)) := of_decide_eq_false c_107
          have n_107 : ¬ (12 < t) := fun h9 => c_107 ((lt_nI (p := 12) (n := t) (by decide) (by omega)).mpr h9)
          refine ps_st (S' := (111, [], [.int 1], M)) rfl rfl rfl ?_
          refine ps_st (S' := (115, [], [.int 1], M)) rfl rfl rfl ?_
          exact ps_ret rfl rfl (Or.inl ⟨by
              unfold tgOk
              omega, rfl, hF⟩)
set_option maxHeartbeats 1000000 in
theorem dx_takesIndexes {g : xe_G} {M : mi_H} {r c b vd da n p mj : Nat} {f : Nat → Int32} {it ru wa mi fa ic ac aa k1 k2 k3 k4 k5 k6 k7 : Int32} {u6 u7 : Value} {pq q1 q2 q3 q4 q5 q6 hd cc : Nat} {sz : Int32} {F1 F3 F4 : Nat → Int32} {k t : Nat} (h_r : M.1 r = some (ob 9 [.ref c, .ref b, .ref vd, .int (nI p), .int it])) (h_b : M.1 b = some (ob 1 [.ref da])) (h_da : M.1 da = some (ar .byte n f)) (h_vd : M.1 vd = some (ob 10 [.int ru, .int wa])) (h_c : M.1 c = some (ob 3 [.ref b, .ref pq, .int mi, .int (nI mj), .int fa, .int ic, u6, u7, .int ac, .int aa, .int k1, .int k2, .int k3, .int k4, .int k5, .int k6, .int k7])) (h_pq : M.1 pq = some (ob 7 [.int sz, .ref q1, .ref q2, .ref q3, .ref q4, .ref q5, .ref q6, .int (nI cc)])) (h_q1 : M.1 q1 = some (ar .int hd F1)) (h_q3 : M.1 q3 = some (ar .int hd F3)) (h_q4 : M.1 q4 = some (ar .int hd F4)) (hn : n ≤ 65540) (hp : p ≤ n) (hD : dst5 q1 q2 q3 q4 q5) (hh : hd < 1073741824) (hk : k < hd) (ht : t < 256) : pt (mT g) 166 [.ref r, .int (nI k), .int (nI t)] M (fun v M' => (∃ (p' x y : Nat) (it' : Int32), (s_ix f n t p = .inr (p', x, y)) ∧ v = some (.int 1) ∧ M'.1 r = some (ob 9 [.ref c, .ref b, .ref vd, .int (nI p'), .int it']) ∧ M'.1 vd = some (ob 10 [.int ru, .int wa]) ∧ M'.1 q3 = some (ar .int hd (upd F3 k (nI x))) ∧ M'.1 q4 = some (ar .int hd (upd F4 k (nI y))) ∧ fm [r, vd, q3, q4] M M') ∨ (∃ (e : Nat × Nat), (s_ix f n t p = .inl e) ∧ v = some (.int 0) ∧ M'.1 vd = some (ob 10 [.int (nI e.1), .int (nI e.2)]) ∧ fm [r, vd, q3, q4] M M')) := by
  refine pt_in (b := mb_166 g) rfl (fun kf => ?_)
  show pl (mT g) kf (mb_166 g).2 (0, [(0, .ref r), (1, .int (nI k)), (2, .int (nI t))], [], M) _
  have hF : fm [r, vd, q3, q4] M M := fm.rf
  refine ps_st (S' := (1, [(0, .ref r), (1, .int (nI k)), (2, .int (nI t))], [.ref r], M)) rfl rfl rfl ?_
  refine ps_st (S' := (2, [(0, .ref r), (1, .int (nI k)), (2, .int (nI t))], [.int (nI t), .ref r], M)) rfl rfl rfl ?_
  refine ps_st (S' := (4, [(0, .ref r), (1, .int (nI k)), (2, .int (nI t))], [.int 15, .int (nI t), .ref r], M)) rfl rfl rfl ?_
  refine ps_if2 (S1 := (11, [(0, .ref r), (1, .int (nI k)), (2, .int (nI t))], [.ref r], M)) (S2 := (7, [(0, .ref r), (1, .int (nI k)), (2, .int (nI t))], [.ref r], M)) rfl rfl rfl (fun c_4 => ?_) (fun c_4 => ?_)
  · have c_4 : ¬ (nI t) = 15 := of_decide_eq_true c_4
    have n_4 : ¬ (t = 15) := fun h9 => c_4 ((eq_nI (p := t) (n := 15) (by omega) (by decide)).mpr h9)
    refine ps_st (S' := (12, [(0, .ref r), (1, .int (nI k)), (2, .int (nI t))], [.int 2, .ref r], M)) rfl rfl rfl ?_
    refine pl_call (a := [.ref r, .int 2]) (rest := []) rfl rfl rfl (dx_takes2 h_r h_b h_da h_vd (hn) (by omega)) (fun v1 M2 q3 => ?_)
    rcases q3 with q3 | q3
    · skip
      obtain ⟨q12_ok, rfl, h4, h5, f6⟩ := q3
      have h8 := (f6.1 b (nin2 (ob_ne h_b h_r (by decide)) (ob_ne h_b h_vd (by decide)))).trans h_b
      have h9 := (f6.1 da (nin2 (Ne.symm (ob_ar h_r h_da)) (Ne.symm (ob_ar h_vd h_da)))).trans h_da
      have h10 := (f6.1 c (nin2 (ob_ne h_c h_r (by decide)) (ob_ne h_c h_vd (by decide)))).trans h_c
      have h11 := (f6.1 pq (nin2 (ob_ne h_pq h_r (by decide)) (ob_ne h_pq h_vd (by decide)))).trans h_pq
      have h12 := (f6.1 q1 (nin2 (Ne.symm (ob_ar h_r h_q1)) (Ne.symm (ob_ar h_vd h_q1)))).trans h_q1
      have h13 := (f6.1 q3 (nin2 (Ne.symm (ob_ar h_r h_q3)) (Ne.symm (ob_ar h_vd h_q3)))).trans h_q3
      have h14 := (f6.1 q4 (nin2 (Ne.symm (ob_ar h_r h_q4)) (Ne.symm (ob_ar h_vd h_q4)))).trans h_q4
      have hF15 := hF.tr f6 (by simp)
      show pl _ _ _ (15, [(0, .ref r), (1, .int (nI k)), (2, .int (nI t))], [.int 1], M2) _
      refine ps_if (S1 := (20, [(0, .ref r), (1, .int (nI k)), (2, .int (nI t))], [], M2)) (S2 := (18, [(0, .ref r), (1, .int (nI k)), (2, .int (nI t))], [], M2)) rfl rfl rfl (fun c_15 => ?_) (fun c_15 => ?_)
      rotate_left
      · exact absurd (by decide) (of_decide_eq_false c_15)
      refine ps_st (S' := (21, [(0, .ref r), (1, .int (nI k)), (2, .int (nI t))], [.ref r], M2)) rfl rfl rfl ?_
      refine ps_get (S' := (24, [(0, .ref r), (1, .int (nI k)), (2, .int (nI t))], [.int (nI (by2 f p))], M2)) rfl h4 rfl rfl ?_
      refine ps_st (S' := (25, [(3, .int (nI (by2 f p))), (0, .ref r), (1, .int (nI k)), (2, .int (nI t))], [], M2)) rfl rfl rfl ?_
      refine ps_st (S' := (26, [(3, .int (nI (by2 f p))), (0, .ref r), (1, .int (nI k)), (2, .int (nI t))], [.int 0], M2)) rfl rfl rfl ?_
      refine ps_st (S' := (28, [(4, .int 0), (3, .int (nI (by2 f p))), (0, .ref r), (1, .int (nI k)), (2, .int (nI t))], [], M2)) rfl rfl rfl ?_
      refine ps_st (S' := (29, [(4, .int 0), (3, .int (nI (by2 f p))), (0, .ref r), (1, .int (nI k)), (2, .int (nI t))], [.int (nI t)], M2)) rfl rfl rfl ?_
      refine ps_st (S' := (31, [(4, .int 0), (3, .int (nI (by2 f p))), (0, .ref r), (1, .int (nI k)), (2, .int (nI t))], [.int 7, .int (nI t)], M2)) rfl rfl rfl ?_
      refine ps_if2 (S1 := (74, [(0, .ref r), (1, .int (nI k)), (3, .int (nI (by2 f p))), (4, .int 0)], [], M2)) (S2 := (34, [(4, .int 0), (3, .int (nI (by2 f p))), (0, .ref r), (1, .int (nI k)), (2, .int (nI t))], [], M2)) rfl rfl rfl (fun c_31 => ?_) (fun c_31 => ?_)
      · have c_31 : (nI t) = 7 := of_decide_eq_true c_31
        have n_31 : t = 7 := (eq_nI (p := t) (n := 7) (by omega) (by decide)).mp c_31
        refine ps_st (S' := (75, [(0, .ref r), (1, .int (nI k)), (3, .int (nI (by2 f p))), (4, .int 0)], [.ref r], M2)) rfl rfl rfl ?_
        refine ps_get (S' := (78, [(0, .ref r), (1, .int (nI k)), (3, .int (nI (by2 f p))), (4, .int 0)], [.ref c], M2)) rfl h4 rfl rfl ?_
        refine ps_get (S' := (81, [(0, .ref r), (1, .int (nI k)), (3, .int (nI (by2 f p))), (4, .int 0)], [.ref pq], M2)) rfl h10 rfl rfl ?_
        refine ps_st (S' := (82, [(0, .ref r), (1, .int (nI k)), (3, .int (nI (by2 f p))), (4, .int 0)], [.int (nI k), .ref pq], M2)) rfl rfl rfl ?_
        refine ps_st (S' := (83, [(0, .ref r), (1, .int (nI k)), (3, .int (nI (by2 f p))), (4, .int 0)], [.int (nI (by2 f p)), .int (nI k), .ref pq], M2)) rfl rfl rfl ?_
        refine ps_st (S' := (85, [(0, .ref r), (1, .int (nI k)), (3, .int (nI (by2 f p))), (4, .int 0)], [.int 0, .int (nI (by2 f p)), .int (nI k), .ref pq], M2)) rfl rfl rfl ?_
        refine pl_call (a := [.ref pq, .int (nI k), .int (nI (by2 f p)), .int 0]) (rest := []) rfl rfl rfl (dx_setNumbers h11 h12 h13 h14 (hD) (hh) (hk)) (fun v16 M17 q18 => ?_)
        obtain ⟨rfl, h19, h20, f21⟩ := q18
        have h23 := (f21.1 r (nin2 (ob_ar h4 h13) (ob_ar h4 h14))).trans h4
        have h24 := (f21.1 b (nin2 (ob_ar h8 h13) (ob_ar h8 h14))).trans h8
        have h25 := (f21.1 da (nin2 (ar_ne h9 h13 (by decide)) (ar_ne h9 h14 (by decide)))).trans h9
        have h26 := (f21.1 vd (nin2 (ob_ar h5 h13) (ob_ar h5 h14))).trans h5
        have h27 := (f21.1 c (nin2 (ob_ar h10 h13) (ob_ar h10 h14))).trans h10
        have h28 := (f21.1 pq (nin2 (ob_ar h11 h13) (ob_ar h11 h14))).trans h11
        have h29 := (f21.1 q1 (nin2 hD.1.2.1 hD.1.2.2.1)).trans h12
        have hF30 := hF15.tr f21 (by simp)
        show pl _ _ _ (88, [(0, .ref r), (1, .int (nI k)), (3, .int (nI (by2 f p))), (4, .int 0)], [], M17) _
        refine ps_st (S' := (89, [(0, .ref r), (1, .int (nI k)), (3, .int (nI (by2 f p))), (4, .int 0)], [.int 1], M17)) rfl rfl rfl ?_
        exact ps_ret rfl rfl (Or.inl ⟨p + 2, (by2 f p), 0, _, by
            unfold s_ix
            repeat' split
            all_goals first | rfl | (exfalso; omega), rfl, h23, h26, h19, h20, hF30⟩)
      · have c_31 : ¬ ((nI t) = 7) := of_decide_eq_false c_31
        have n_31 : ¬ (t = 7) := fun h9 => c_31 ((eq_nI (p := t) (n := 7) (by omega) (by decide)).mpr h9)
        refine ps_st (S' := (35, [(4, .int 0), (3, .int (nI (by2 f p))), (0, .ref r), (1, .int (nI k)), (2, .int (nI t))], [.int (nI t)], M2)) rfl rfl rfl ?_
        refine ps_st (S' := (37, [(4, .int 0), (3, .int (nI (by2 f p))), (0, .ref r), (1, .int (nI k)), (2, .int (nI t))], [.int 8, .int (nI t)], M2)) rfl rfl rfl ?_
        refine ps_if2 (S1 := (74, [(0, .ref r), (1, .int (nI k)), (3, .int (nI (by2 f p))), (4, .int 0)], [], M2)) (S2 := (40, [(4, .int 0), (3, .int (nI (by2 f p))), (0, .ref r), (1, .int (nI k)), (2, .int (nI t))], [], M2)) rfl rfl rfl (fun c_37 => ?_) (fun c_37 => ?_)
        · have c_37 : (nI t) = 8 := of_decide_eq_true c_37
          have n_37 : t = 8 := (eq_nI (p := t) (n := 8) (by omega) (by decide)).mp c_37
          refine ps_st (S' := (75, [(0, .ref r), (1, .int (nI k)), (3, .int (nI (by2 f p))), (4, .int 0)], [.ref r], M2)) rfl rfl rfl ?_
          refine ps_get (S' := (78, [(0, .ref r), (1, .int (nI k)), (3, .int (nI (by2 f p))), (4, .int 0)], [.ref c], M2)) rfl h4 rfl rfl ?_
          refine ps_get (S' := (81, [(0, .ref r), (1, .int (nI k)), (3, .int (nI (by2 f p))), (4, .int 0)], [.ref pq], M2)) rfl h10 rfl rfl ?_
          refine ps_st (S' := (82, [(0, .ref r), (1, .int (nI k)), (3, .int (nI (by2 f p))), (4, .int 0)], [.int (nI k), .ref pq], M2)) rfl rfl rfl ?_
          refine ps_st (S' := (83, [(0, .ref r), (1, .int (nI k)), (3, .int (nI (by2 f p))), (4, .int 0)], [.int (nI (by2 f p)), .int (nI k), .ref pq], M2)) rfl rfl rfl ?_
          refine ps_st (S' := (85, [(0, .ref r), (1, .int (nI k)), (3, .int (nI (by2 f p))), (4, .int 0)], [.int 0, .int (nI (by2 f p)), .int (nI k), .ref pq], M2)) rfl rfl rfl ?_
          refine pl_call (a := [.ref pq, .int (nI k), .int (nI (by2 f p)), .int 0]) (rest := []) rfl rfl rfl (dx_setNumbers h11 h12 h13 h14 (hD) (hh) (hk)) (fun v31 M32 q33 => ?_)
          obtain ⟨rfl, h34, h35, f36⟩ := q33
          have h38 := (f36.1 r (nin2 (ob_ar h4 h13) (ob_ar h4 h14))).trans h4
          have h39 := (f36.1 b (nin2 (ob_ar h8 h13) (ob_ar h8 h14))).trans h8
          have h40 := (f36.1 da (nin2 (ar_ne h9 h13 (by decide)) (ar_ne h9 h14 (by decide)))).trans h9
          have h41 := (f36.1 vd (nin2 (ob_ar h5 h13) (ob_ar h5 h14))).trans h5
          have h42 := (f36.1 c (nin2 (ob_ar h10 h13) (ob_ar h10 h14))).trans h10
          have h43 := (f36.1 pq (nin2 (ob_ar h11 h13) (ob_ar h11 h14))).trans h11
          have h44 := (f36.1 q1 (nin2 hD.1.2.1 hD.1.2.2.1)).trans h12
          have hF45 := hF15.tr f36 (by simp)
          show pl _ _ _ (88, [(0, .ref r), (1, .int (nI k)), (3, .int (nI (by2 f p))), (4, .int 0)], [], M32) _
          refine ps_st (S' := (89, [(0, .ref r), (1, .int (nI k)), (3, .int (nI (by2 f p))), (4, .int 0)], [.int 1], M32)) rfl rfl rfl ?_
          exact ps_ret rfl rfl (Or.inl ⟨p + 2, (by2 f p), 0, _, by
              unfold s_ix
              repeat' split
              all_goals first | rfl | (exfalso; omega), rfl, h38, h41, h34, h35, hF45⟩)
        · have c_37 : ¬ ((nI t) = 8) := of_decide_eq_false c_37
          have n_37 : ¬ (t = 8) := fun h9 => c_37 ((eq_nI (p := t) (n := 8) (by omega) (by decide)).mpr h9)
          refine ps_st (S' := (41, [(4, .int 0), (3, .int (nI (by2 f p))), (0, .ref r), (1, .int (nI k)), (2, .int (nI t))], [.int (nI t)], M2)) rfl rfl rfl ?_
          refine ps_st (S' := (43, [(4, .int 0), (3, .int (nI (by2 f p))), (0, .ref r), (1, .int (nI k)), (2, .int (nI t))], [.int 16, .int (nI t)], M2)) rfl rfl rfl ?_
          refine ps_if2 (S1 := (74, [(0, .ref r), (1, .int (nI k)), (3, .int (nI (by2 f p))), (4, .int 0)], [], M2)) (S2 := (46, [(4, .int 0), (3, .int (nI (by2 f p))), (0, .ref r), (1, .int (nI k)), (2, .int (nI t))], [], M2)) rfl rfl rfl (fun c_43 => ?_) (fun c_43 => ?_)
          · have c_43 : (nI t) = 16 := of_decide_eq_true c_43
            have n_43 : t = 16 := (eq_nI (p := t) (n := 16) (by omega) (by decide)).mp c_43
            refine ps_st (S' := (75, [(0, .ref r), (1, .int (nI k)), (3, .int (nI (by2 f p))), (4, .int 0)], [.ref r], M2)) rfl rfl rfl ?_
            refine ps_get (S' := (78, [(0, .ref r), (1, .int (nI k)), (3, .int (nI (by2 f p))), (4, .int 0)], [.ref c], M2)) rfl h4 rfl rfl ?_
            refine ps_get (S' := (81, [(0, .ref r), (1, .int (nI k)), (3, .int (nI (by2 f p))), (4, .int 0)], [.ref pq], M2)) rfl h10 rfl rfl ?_
            refine ps_st (S' := (82, [(0, .ref r), (1, .int (nI k)), (3, .int (nI (by2 f p))), (4, .int 0)], [.int (nI k), .ref pq], M2)) rfl rfl rfl ?_
            refine ps_st (S' := (83, [(0, .ref r), (1, .int (nI k)), (3, .int (nI (by2 f p))), (4, .int 0)], [.int (nI (by2 f p)), .int (nI k), .ref pq], M2)) rfl rfl rfl ?_
            refine ps_st (S' := (85, [(0, .ref r), (1, .int (nI k)), (3, .int (nI (by2 f p))), (4, .int 0)], [.int 0, .int (nI (by2 f p)), .int (nI k), .ref pq], M2)) rfl rfl rfl ?_
            refine pl_call (a := [.ref pq, .int (nI k), .int (nI (by2 f p)), .int 0]) (rest := []) rfl rfl rfl (dx_setNumbers h11 h12 h13 h14 (hD) (hh) (hk)) (fun v46 M47 q48 => ?_)
            obtain ⟨rfl, h49, h50, f51⟩ := q48
            have h53 := (f51.1 r (nin2 (ob_ar h4 h13) (ob_ar h4 h14))).trans h4
            have h54 := (f51.1 b (nin2 (ob_ar h8 h13) (ob_ar h8 h14))).trans h8
            have h55 := (f51.1 da (nin2 (ar_ne h9 h13 (by decide)) (ar_ne h9 h14 (by decide)))).trans h9
            have h56 := (f51.1 vd (nin2 (ob_ar h5 h13) (ob_ar h5 h14))).trans h5
            have h57 := (f51.1 c (nin2 (ob_ar h10 h13) (ob_ar h10 h14))).trans h10
            have h58 := (f51.1 pq (nin2 (ob_ar h11 h13) (ob_ar h11 h14))).trans h11
            have h59 := (f51.1 q1 (nin2 hD.1.2.1 hD.1.2.2.1)).trans h12
            have hF60 := hF15.tr f51 (by simp)
            show pl _ _ _ (88, [(0, .ref r), (1, .int (nI k)), (3, .int (nI (by2 f p))), (4, .int 0)], [], M47) _
            refine ps_st (S' := (89, [(0, .ref r), (1, .int (nI k)), (3, .int (nI (by2 f p))), (4, .int 0)], [.int 1], M47)) rfl rfl rfl ?_
            exact ps_ret rfl rfl (Or.inl ⟨p + 2, (by2 f p), 0, _, by
                unfold s_ix
                repeat' split
                all_goals first | rfl | (exfalso; omega), rfl, h53, h56, h49, h50, hF60⟩)
          · have c_43 : ¬ ((nI t) = 16) := of_decide_eq_false c_43
            have n_43 : ¬ (t = 16) := fun h9 => c_43 ((eq_nI (p := t) (n := 16) (by omega) (by decide)).mpr h9)
            refine ps_st (S' := (47, [(4, .int 0), (3, .int (nI (by2 f p))), (0, .ref r), (1, .int (nI k)), (2, .int (nI t))], [.int (nI t)], M2)) rfl rfl rfl ?_
            refine ps_st (S' := (49, [(4, .int 0), (3, .int (nI (by2 f p))), (0, .ref r), (1, .int (nI k)), (2, .int (nI t))], [.int 19, .int (nI t)], M2)) rfl rfl rfl ?_
            refine ps_if2 (S1 := (74, [(0, .ref r), (1, .int (nI k)), (3, .int (nI (by2 f p))), (4, .int 0)], [], M2)) (S2 := (52, [(4, .int 0), (3, .int (nI (by2 f p))), (0, .ref r), (1, .int (nI k)), (2, .int (nI t))], [], M2)) rfl rfl rfl (fun c_49 => ?_) (fun c_49 => ?_)
            · have c_49 : (nI t) = 19 := of_decide_eq_true c_49
              have n_49 : t = 19 := (eq_nI (p := t) (n := 19) (by omega) (by decide)).mp c_49
              refine ps_st (S' := (75, [(0, .ref r), (1, .int (nI k)), (3, .int (nI (by2 f p))), (4, .int 0)], [.ref r], M2)) rfl rfl rfl ?_
              refine ps_get (S' := (78, [(0, .ref r), (1, .int (nI k)), (3, .int (nI (by2 f p))), (4, .int 0)], [.ref c], M2)) rfl h4 rfl rfl ?_
              refine ps_get (S' := (81, [(0, .ref r), (1, .int (nI k)), (3, .int (nI (by2 f p))), (4, .int 0)], [.ref pq], M2)) rfl h10 rfl rfl ?_
              refine ps_st (S' := (82, [(0, .ref r), (1, .int (nI k)), (3, .int (nI (by2 f p))), (4, .int 0)], [.int (nI k), .ref pq], M2)) rfl rfl rfl ?_
              refine ps_st (S' := (83, [(0, .ref r), (1, .int (nI k)), (3, .int (nI (by2 f p))), (4, .int 0)], [.int (nI (by2 f p)), .int (nI k), .ref pq], M2)) rfl rfl rfl ?_
              refine ps_st (S' := (85, [(0, .ref r), (1, .int (nI k)), (3, .int (nI (by2 f p))), (4, .int 0)], [.int 0, .int (nI (by2 f p)), .int (nI k), .ref pq], M2)) rfl rfl rfl ?_
              refine pl_call (a := [.ref pq, .int (nI k), .int (nI (by2 f p)), .int 0]) (rest := []) rfl rfl rfl (dx_setNumbers h11 h12 h13 h14 (hD) (hh) (hk)) (fun v61 M62 q63 => ?_)
              obtain ⟨rfl, h64, h65, f66⟩ := q63
              have h68 := (f66.1 r (nin2 (ob_ar h4 h13) (ob_ar h4 h14))).trans h4
              have h69 := (f66.1 b (nin2 (ob_ar h8 h13) (ob_ar h8 h14))).trans h8
              have h70 := (f66.1 da (nin2 (ar_ne h9 h13 (by decide)) (ar_ne h9 h14 (by decide)))).trans h9
              have h71 := (f66.1 vd (nin2 (ob_ar h5 h13) (ob_ar h5 h14))).trans h5
              have h72 := (f66.1 c (nin2 (ob_ar h10 h13) (ob_ar h10 h14))).trans h10
              have h73 := (f66.1 pq (nin2 (ob_ar h11 h13) (ob_ar h11 h14))).trans h11
              have h74 := (f66.1 q1 (nin2 hD.1.2.1 hD.1.2.2.1)).trans h12
              have hF75 := hF15.tr f66 (by simp)
              show pl _ _ _ (88, [(0, .ref r), (1, .int (nI k)), (3, .int (nI (by2 f p))), (4, .int 0)], [], M62) _
              refine ps_st (S' := (89, [(0, .ref r), (1, .int (nI k)), (3, .int (nI (by2 f p))), (4, .int 0)], [.int 1], M62)) rfl rfl rfl ?_
              exact ps_ret rfl rfl (Or.inl ⟨p + 2, (by2 f p), 0, _, by
                  unfold s_ix
                  repeat' split
                  all_goals first | rfl | (exfalso; omega), rfl, h68, h71, h64, h65, hF75⟩)
            · have c_49 : ¬ ((nI t) = 19) := of_decide_eq_false c_49
              have n_49 : ¬ (t = 19) := fun h9 => c_49 ((eq_nI (p := t) (n := 19) (by omega) (by decide)).mpr h9)
              refine ps_st (S' := (53, [(4, .int 0), (3, .int (nI (by2 f p))), (0, .ref r), (1, .int (nI k)), (2, .int (nI t))], [.int (nI t)], M2)) rfl rfl rfl ?_
              refine ps_st (S' := (55, [(4, .int 0), (3, .int (nI (by2 f p))), (0, .ref r), (1, .int (nI k)), (2, .int (nI t))], [.int 20, .int (nI t)], M2)) rfl rfl rfl ?_
              refine ps_if2 (S1 := (74, [(0, .ref r), (1, .int (nI k)), (3, .int (nI (by2 f p))), (4, .int 0)], [], M2)) (S2 := (58, [(4, .int 0), (3, .int (nI (by2 f p))), (0, .ref r), (1, .int (nI k)), (2, .int (nI t))], [], M2)) rfl rfl rfl (fun c_55 => ?_) (fun c_55 => ?_)
              · have c_55 : (nI t) = 20 := of_decide_eq_true c_55
                have n_55 : t = 20 := (eq_nI (p := t) (n := 20) (by omega) (by decide)).mp c_55
                refine ps_st (S' := (75, [(0, .ref r), (1, .int (nI k)), (3, .int (nI (by2 f p))), (4, .int 0)], [.ref r], M2)) rfl rfl rfl ?_
                refine ps_get (S' := (78, [(0, .ref r), (1, .int (nI k)), (3, .int (nI (by2 f p))), (4, .int 0)], [.ref c], M2)) rfl h4 rfl rfl ?_
                refine ps_get (S' := (81, [(0, .ref r), (1, .int (nI k)), (3, .int (nI (by2 f p))), (4, .int 0)], [.ref pq], M2)) rfl h10 rfl rfl ?_
                refine ps_st (S' := (82, [(0, .ref r), (1, .int (nI k)), (3, .int (nI (by2 f p))), (4, .int 0)], [.int (nI k), .ref pq], M2)) rfl rfl rfl ?_
                refine ps_st (S' := (83, [(0, .ref r), (1, .int (nI k)), (3, .int (nI (by2 f p))), (4, .int 0)], [.int (nI (by2 f p)), .int (nI k), .ref pq], M2)) rfl rfl rfl ?_
                refine ps_st (S' := (85, [(0, .ref r), (1, .int (nI k)), (3, .int (nI (by2 f p))), (4, .int 0)], [.int 0, .int (nI (by2 f p)), .int (nI k), .ref pq], M2)) rfl rfl rfl ?_
                refine pl_call (a := [.ref pq, .int (nI k), .int (nI (by2 f p)), .int 0]) (rest := []) rfl rfl rfl (dx_setNumbers h11 h12 h13 h14 (hD) (hh) (hk)) (fun v76 M77 q78 => ?_)
                obtain ⟨rfl, h79, h80, f81⟩ := q78
                have h83 := (f81.1 r (nin2 (ob_ar h4 h13) (ob_ar h4 h14))).trans h4
                have h84 := (f81.1 b (nin2 (ob_ar h8 h13) (ob_ar h8 h14))).trans h8
                have h85 := (f81.1 da (nin2 (ar_ne h9 h13 (by decide)) (ar_ne h9 h14 (by decide)))).trans h9
                have h86 := (f81.1 vd (nin2 (ob_ar h5 h13) (ob_ar h5 h14))).trans h5
                have h87 := (f81.1 c (nin2 (ob_ar h10 h13) (ob_ar h10 h14))).trans h10
                have h88 := (f81.1 pq (nin2 (ob_ar h11 h13) (ob_ar h11 h14))).trans h11
                have h89 := (f81.1 q1 (nin2 hD.1.2.1 hD.1.2.2.1)).trans h12
                have hF90 := hF15.tr f81 (by simp)
                show pl _ _ _ (88, [(0, .ref r), (1, .int (nI k)), (3, .int (nI (by2 f p))), (4, .int 0)], [], M77) _
                refine ps_st (S' := (89, [(0, .ref r), (1, .int (nI k)), (3, .int (nI (by2 f p))), (4, .int 0)], [.int 1], M77)) rfl rfl rfl ?_
                exact ps_ret rfl rfl (Or.inl ⟨p + 2, (by2 f p), 0, _, by
                    unfold s_ix
                    repeat' split
                    all_goals first | rfl | (exfalso; omega), rfl, h83, h86, h79, h80, hF90⟩)
              · have c_55 : ¬ ((nI t) = 20) := of_decide_eq_false c_55
                have n_55 : ¬ (t = 20) := fun h9 => c_55 ((eq_nI (p := t) (n := 20) (by omega) (by decide)).mpr h9)
                refine ps_st (S' := (59, [(4, .int 0), (3, .int (nI (by2 f p))), (0, .ref r), (1, .int (nI k)), (2, .int (nI t))], [.ref r], M2)) rfl rfl rfl ?_
                refine ps_st (S' := (60, [(4, .int 0), (3, .int (nI (by2 f p))), (0, .ref r), (1, .int (nI k)), (2, .int (nI t))], [.int 2, .ref r], M2)) rfl rfl rfl ?_
                refine pl_call (a := [.ref r, .int 2]) (rest := []) rfl rfl rfl (dx_takes2 h4 h8 h9 h5 (hn) (by omega)) (fun v91 M92 q93 => ?_)
                rcases q93 with q93 | q93
                · skip
                  obtain ⟨q60_ok, rfl, h94, h95, f96⟩ := q93
                  have h98 := (f96.1 b (nin2 (ob_ne h8 h4 (by decide)) (ob_ne h8 h5 (by decide)))).trans h8
                  have h99 := (f96.1 da (nin2 (Ne.symm (ob_ar h4 h9)) (Ne.symm (ob_ar h5 h9)))).trans h9
                  have h100 := (f96.1 c (nin2 (ob_ne h10 h4 (by decide)) (ob_ne h10 h5 (by decide)))).trans h10
                  have h101 := (f96.1 pq (nin2 (ob_ne h11 h4 (by decide)) (ob_ne h11 h5 (by decide)))).trans h11
                  have h102 := (f96.1 q1 (nin2 (Ne.symm (ob_ar h4 h12)) (Ne.symm (ob_ar h5 h12)))).trans h12
                  have h103 := (f96.1 q3 (nin2 (Ne.symm (ob_ar h4 h13)) (Ne.symm (ob_ar h5 h13)))).trans h13
                  have h104 := (f96.1 q4 (nin2 (Ne.symm (ob_ar h4 h14)) (Ne.symm (ob_ar h5 h14)))).trans h14
                  have hF105 := hF15.tr f96 (by simp)
                  show pl _ _ _ (63, [(4, .int 0), (3, .int (nI (by2 f p))), (0, .ref r), (1, .int (nI k)), (2, .int (nI t))], [.int 1], M92) _
                  refine ps_if (S1 := (68, [(4, .int 0), (3, .int (nI (by2 f p))), (0, .ref r), (1, .int (nI k)), (2, .int (nI t))], [], M92)) (S2 := (66, [(4, .int 0), (3, .int (nI (by2 f p))), (0, .ref r), (1, .int (nI k)), (2, .int (nI t))], [], M92)) rfl rfl rfl (fun c_63 => ?_) (fun c_63 => ?_)
                  rotate_left
                  · exact absurd (by decide) (of_decide_eq_false c_63)
                  refine ps_st (S' := (69, [(4, .int 0), (3, .int (nI (by2 f p))), (0, .ref r), (1, .int (nI k)), (2, .int (nI t))], [.ref r], M92)) rfl rfl rfl ?_
                  refine ps_get (S' := (72, [(4, .int 0), (3, .int (nI (by2 f p))), (0, .ref r), (1, .int (nI k)), (2, .int (nI t))], [.int (nI (by2 f (p + 2)))], M92)) rfl h94 rfl rfl ?_
                  refine ps_st (S' := (74, [(0, .ref r), (1, .int (nI k)), (3, .int (nI (by2 f p))), (4, .int (nI (by2 f (p + 2))))], [], M92)) rfl rfl rfl ?_
                  refine ps_st (S' := (75, [(0, .ref r), (1, .int (nI k)), (3, .int (nI (by2 f p))), (4, .int (nI (by2 f (p + 2))))], [.ref r], M92)) rfl rfl rfl ?_
                  refine ps_get (S' := (78, [(0, .ref r), (1, .int (nI k)), (3, .int (nI (by2 f p))), (4, .int (nI (by2 f (p + 2))))], [.ref c], M92)) rfl h94 rfl rfl ?_
                  refine ps_get (S' := (81, [(0, .ref r), (1, .int (nI k)), (3, .int (nI (by2 f p))), (4, .int (nI (by2 f (p + 2))))], [.ref pq], M92)) rfl h100 rfl rfl ?_
                  refine ps_st (S' := (82, [(0, .ref r), (1, .int (nI k)), (3, .int (nI (by2 f p))), (4, .int (nI (by2 f (p + 2))))], [.int (nI k), .ref pq], M92)) rfl rfl rfl ?_
                  refine ps_st (S' := (83, [(0, .ref r), (1, .int (nI k)), (3, .int (nI (by2 f p))), (4, .int (nI (by2 f (p + 2))))], [.int (nI (by2 f p)), .int (nI k), .ref pq], M92)) rfl rfl rfl ?_
                  refine ps_st (S' := (85, [(0, .ref r), (1, .int (nI k)), (3, .int (nI (by2 f p))), (4, .int (nI (by2 f (p + 2))))], [.int (nI (by2 f (p + 2))), .int (nI (by2 f p)), .int (nI k), .ref pq], M92)) rfl rfl rfl ?_
                  refine pl_call (a := [.ref pq, .int (nI k), .int (nI (by2 f p)), .int (nI (by2 f (p + 2)))]) (rest := []) rfl rfl rfl (dx_setNumbers h101 h102 h103 h104 (hD) (hh) (hk)) (fun v106 M107 q108 => ?_)
                  obtain ⟨rfl, h109, h110, f111⟩ := q108
                  have h113 := (f111.1 r (nin2 (ob_ar h94 h103) (ob_ar h94 h104))).trans h94
                  have h114 := (f111.1 b (nin2 (ob_ar h98 h103) (ob_ar h98 h104))).trans h98
                  have h115 := (f111.1 da (nin2 (ar_ne h99 h103 (by decide)) (ar_ne h99 h104 (by decide)))).trans h99
                  have h116 := (f111.1 vd (nin2 (ob_ar h95 h103) (ob_ar h95 h104))).trans h95
                  have h117 := (f111.1 c (nin2 (ob_ar h100 h103) (ob_ar h100 h104))).trans h100
                  have h118 := (f111.1 pq (nin2 (ob_ar h101 h103) (ob_ar h101 h104))).trans h101
                  have h119 := (f111.1 q1 (nin2 hD.1.2.1 hD.1.2.2.1)).trans h102
                  have hF120 := hF105.tr f111 (by simp)
                  show pl _ _ _ (88, [(0, .ref r), (1, .int (nI k)), (3, .int (nI (by2 f p))), (4, .int (nI (by2 f (p + 2))))], [], M107) _
                  refine ps_st (S' := (89, [(0, .ref r), (1, .int (nI k)), (3, .int (nI (by2 f p))), (4, .int (nI (by2 f (p + 2))))], [.int 1], M107)) rfl rfl rfl ?_
                  exact ps_ret rfl rfl (Or.inl ⟨p + 4, (by2 f p), by2 f (p + 2), _, by
                      unfold s_ix
                      repeat' split
                      all_goals first | rfl | (exfalso; omega), rfl, h113, h116, h109, h110, hF120⟩)
                · skip
                  obtain ⟨q60_no, rfl, h121, h122, f123⟩ := q93
                  have h125 := (f123.1 b (nin2 (ob_ne h8 h4 (by decide)) (ob_ne h8 h5 (by decide)))).trans h8
                  have h126 := (f123.1 da (nin2 (Ne.symm (ob_ar h4 h9)) (Ne.symm (ob_ar h5 h9)))).trans h9
                  have h127 := (f123.1 c (nin2 (ob_ne h10 h4 (by decide)) (ob_ne h10 h5 (by decide)))).trans h10
                  have h128 := (f123.1 pq (nin2 (ob_ne h11 h4 (by decide)) (ob_ne h11 h5 (by decide)))).trans h11
                  have h129 := (f123.1 q1 (nin2 (Ne.symm (ob_ar h4 h12)) (Ne.symm (ob_ar h5 h12)))).trans h12
                  have h130 := (f123.1 q3 (nin2 (Ne.symm (ob_ar h4 h13)) (Ne.symm (ob_ar h5 h13)))).trans h13
                  have h131 := (f123.1 q4 (nin2 (Ne.symm (ob_ar h4 h14)) (Ne.symm (ob_ar h5 h14)))).trans h14
                  have hF132 := hF15.tr f123 (by simp)
                  show pl _ _ _ (63, [(4, .int 0), (3, .int (nI (by2 f p))), (0, .ref r), (1, .int (nI k)), (2, .int (nI t))], [.int 0], M92) _
                  refine ps_if (S1 := (68, [(4, .int 0), (3, .int (nI (by2 f p))), (0, .ref r), (1, .int (nI k)), (2, .int (nI t))], [], M92)) (S2 := (66, [(4, .int 0), (3, .int (nI (by2 f p))), (0, .ref r), (1, .int (nI k)), (2, .int (nI t))], [], M92)) rfl rfl rfl (fun c_63 => ?_) (fun c_63 => ?_)
                  · exact absurd (of_decide_eq_true c_63) (by decide)
                  refine ps_st (S' := (67, [(4, .int 0), (3, .int (nI (by2 f p))), (0, .ref r), (1, .int (nI k)), (2, .int (nI t))], [.int 0], M92)) rfl rfl rfl ?_
                  exact ps_ret rfl rfl (Or.inr ⟨(1, p + 2), by
                      unfold s_ix
                      repeat' split
                      all_goals first | rfl | (exfalso; omega), rfl, h122, hF132⟩)
    · skip
      obtain ⟨q12_no, rfl, h133, h134, f135⟩ := q3
      have h137 := (f135.1 b (nin2 (ob_ne h_b h_r (by decide)) (ob_ne h_b h_vd (by decide)))).trans h_b
      have h138 := (f135.1 da (nin2 (Ne.symm (ob_ar h_r h_da)) (Ne.symm (ob_ar h_vd h_da)))).trans h_da
      have h139 := (f135.1 c (nin2 (ob_ne h_c h_r (by decide)) (ob_ne h_c h_vd (by decide)))).trans h_c
      have h140 := (f135.1 pq (nin2 (ob_ne h_pq h_r (by decide)) (ob_ne h_pq h_vd (by decide)))).trans h_pq
      have h141 := (f135.1 q1 (nin2 (Ne.symm (ob_ar h_r h_q1)) (Ne.symm (ob_ar h_vd h_q1)))).trans h_q1
      have h142 := (f135.1 q3 (nin2 (Ne.symm (ob_ar h_r h_q3)) (Ne.symm (ob_ar h_vd h_q3)))).trans h_q3
      have h143 := (f135.1 q4 (nin2 (Ne.symm (ob_ar h_r h_q4)) (Ne.symm (ob_ar h_vd h_q4)))).trans h_q4
      have hF144 := hF.tr f135 (by simp)
      show pl _ _ _ (15, [(0, .ref r), (1, .int (nI k)), (2, .int (nI t))], [.int 0], M2) _
      refine ps_if (S1 := (20, [(0, .ref r), (1, .int (nI k)), (2, .int (nI t))], [], M2)) (S2 := (18, [(0, .ref r), (1, .int (nI k)), (2, .int (nI t))], [], M2)) rfl rfl rfl (fun c_15 => ?_) (fun c_15 => ?_)
      · exact absurd (of_decide_eq_true c_15) (by decide)
      refine ps_st (S' := (19, [(0, .ref r), (1, .int (nI k)), (2, .int (nI t))], [.int 0], M2)) rfl rfl rfl ?_
      exact ps_ret rfl rfl (Or.inr ⟨(1, p), by
          unfold s_ix
          repeat' split
          all_goals first | rfl | (exfalso; omega), rfl, h134, hF144⟩)
  · have c_4 : ¬ (¬ (nI t) = 15) := of_decide_eq_false c_4
    have n_4 : t = 15 := (eq_nI (p := t) (n := 15) (by omega) (by decide)).mp (Decidable.not_not.mp c_4)
    refine ps_st (S' := (8, [(0, .ref r), (1, .int (nI k)), (2, .int (nI t))], [.int 1, .ref r], M)) rfl rfl rfl ?_
    refine ps_st (S' := (12, [(0, .ref r), (1, .int (nI k)), (2, .int (nI t))], [.int 1, .ref r], M)) rfl rfl rfl ?_
    refine pl_call (a := [.ref r, .int 1]) (rest := []) rfl rfl rfl (dx_takes1 h_r h_b h_da h_vd (hn) (by omega)) (fun v145 M146 q147 => ?_)
    rcases q147 with q147 | q147
    · skip
      obtain ⟨q12_ok, rfl, h148, h149, f150⟩ := q147
      have h152 := (f150.1 b (nin2 (ob_ne h_b h_r (by decide)) (ob_ne h_b h_vd (by decide)))).trans h_b
      have h153 := (f150.1 da (nin2 (Ne.symm (ob_ar h_r h_da)) (Ne.symm (ob_ar h_vd h_da)))).trans h_da
      have h154 := (f150.1 c (nin2 (ob_ne h_c h_r (by decide)) (ob_ne h_c h_vd (by decide)))).trans h_c
      have h155 := (f150.1 pq (nin2 (ob_ne h_pq h_r (by decide)) (ob_ne h_pq h_vd (by decide)))).trans h_pq
      have h156 := (f150.1 q1 (nin2 (Ne.symm (ob_ar h_r h_q1)) (Ne.symm (ob_ar h_vd h_q1)))).trans h_q1
      have h157 := (f150.1 q3 (nin2 (Ne.symm (ob_ar h_r h_q3)) (Ne.symm (ob_ar h_vd h_q3)))).trans h_q3
      have h158 := (f150.1 q4 (nin2 (Ne.symm (ob_ar h_r h_q4)) (Ne.symm (ob_ar h_vd h_q4)))).trans h_q4
      have hF159 := hF.tr f150 (by simp)
      show pl _ _ _ (15, [(0, .ref r), (1, .int (nI k)), (2, .int (nI t))], [.int 1], M146) _
      refine ps_if (S1 := (20, [(0, .ref r), (1, .int (nI k)), (2, .int (nI t))], [], M146)) (S2 := (18, [(0, .ref r), (1, .int (nI k)), (2, .int (nI t))], [], M146)) rfl rfl rfl (fun c_15 => ?_) (fun c_15 => ?_)
      rotate_left
      · exact absurd (by decide) (of_decide_eq_false c_15)
      refine ps_st (S' := (21, [(0, .ref r), (1, .int (nI k)), (2, .int (nI t))], [.ref r], M146)) rfl rfl rfl ?_
      refine ps_get (S' := (24, [(0, .ref r), (1, .int (nI k)), (2, .int (nI t))], [.int (nI (by1 f p))], M146)) rfl h148 rfl rfl ?_
      refine ps_st (S' := (25, [(3, .int (nI (by1 f p))), (0, .ref r), (1, .int (nI k)), (2, .int (nI t))], [], M146)) rfl rfl rfl ?_
      refine ps_st (S' := (26, [(3, .int (nI (by1 f p))), (0, .ref r), (1, .int (nI k)), (2, .int (nI t))], [.int 0], M146)) rfl rfl rfl ?_
      refine ps_st (S' := (28, [(4, .int 0), (3, .int (nI (by1 f p))), (0, .ref r), (1, .int (nI k)), (2, .int (nI t))], [], M146)) rfl rfl rfl ?_
      refine ps_st (S' := (29, [(4, .int 0), (3, .int (nI (by1 f p))), (0, .ref r), (1, .int (nI k)), (2, .int (nI t))], [.int (nI t)], M146)) rfl rfl rfl ?_
      refine ps_st (S' := (31, [(4, .int 0), (3, .int (nI (by1 f p))), (0, .ref r), (1, .int (nI k)), (2, .int (nI t))], [.int 7, .int (nI t)], M146)) rfl rfl rfl ?_
      refine ps_if2 (S1 := (74, [(0, .ref r), (1, .int (nI k)), (3, .int (nI (by1 f p))), (4, .int 0)], [], M146)) (S2 := (34, [(4, .int 0), (3, .int (nI (by1 f p))), (0, .ref r), (1, .int (nI k)), (2, .int (nI t))], [], M146)) rfl rfl rfl (fun c_31 => ?_) (fun c_31 => ?_)
      · have c_31 : (nI t) = 7 := of_decide_eq_true c_31
        have n_31 : t = 7 := (eq_nI (p := t) (n := 7) (by omega) (by decide)).mp c_31
        refine ps_st (S' := (75, [(0, .ref r), (1, .int (nI k)), (3, .int (nI (by1 f p))), (4, .int 0)], [.ref r], M146)) rfl rfl rfl ?_
        refine ps_get (S' := (78, [(0, .ref r), (1, .int (nI k)), (3, .int (nI (by1 f p))), (4, .int 0)], [.ref c], M146)) rfl h148 rfl rfl ?_
        refine ps_get (S' := (81, [(0, .ref r), (1, .int (nI k)), (3, .int (nI (by1 f p))), (4, .int 0)], [.ref pq], M146)) rfl h154 rfl rfl ?_
        refine ps_st (S' := (82, [(0, .ref r), (1, .int (nI k)), (3, .int (nI (by1 f p))), (4, .int 0)], [.int (nI k), .ref pq], M146)) rfl rfl rfl ?_
        refine ps_st (S' := (83, [(0, .ref r), (1, .int (nI k)), (3, .int (nI (by1 f p))), (4, .int 0)], [.int (nI (by1 f p)), .int (nI k), .ref pq], M146)) rfl rfl rfl ?_
        refine ps_st (S' := (85, [(0, .ref r), (1, .int (nI k)), (3, .int (nI (by1 f p))), (4, .int 0)], [.int 0, .int (nI (by1 f p)), .int (nI k), .ref pq], M146)) rfl rfl rfl ?_
        refine pl_call (a := [.ref pq, .int (nI k), .int (nI (by1 f p)), .int 0]) (rest := []) rfl rfl rfl (dx_setNumbers h155 h156 h157 h158 (hD) (hh) (hk)) (fun v160 M161 q162 => ?_)
        obtain ⟨rfl, h163, h164, f165⟩ := q162
        have h167 := (f165.1 r (nin2 (ob_ar h148 h157) (ob_ar h148 h158))).trans h148
        have h168 := (f165.1 b (nin2 (ob_ar h152 h157) (ob_ar h152 h158))).trans h152
        have h169 := (f165.1 da (nin2 (ar_ne h153 h157 (by decide)) (ar_ne h153 h158 (by decide)))).trans h153
        have h170 := (f165.1 vd (nin2 (ob_ar h149 h157) (ob_ar h149 h158))).trans h149
        have h171 := (f165.1 c (nin2 (ob_ar h154 h157) (ob_ar h154 h158))).trans h154
        have h172 := (f165.1 pq (nin2 (ob_ar h155 h157) (ob_ar h155 h158))).trans h155
        have h173 := (f165.1 q1 (nin2 hD.1.2.1 hD.1.2.2.1)).trans h156
        have hF174 := hF159.tr f165 (by simp)
        show pl _ _ _ (88, [(0, .ref r), (1, .int (nI k)), (3, .int (nI (by1 f p))), (4, .int 0)], [], M161) _
        refine ps_st (S' := (89, [(0, .ref r), (1, .int (nI k)), (3, .int (nI (by1 f p))), (4, .int 0)], [.int 1], M161)) rfl rfl rfl ?_
        exact ps_ret rfl rfl (Or.inl ⟨p + 1, (by1 f p), 0, _, by
            unfold s_ix
            repeat' split
            all_goals first | rfl | (exfalso; omega), rfl, h167, h170, h163, h164, hF174⟩)
      · have c_31 : ¬ ((nI t) = 7) := of_decide_eq_false c_31
        have n_31 : ¬ (t = 7) := fun h9 => c_31 ((eq_nI (p := t) (n := 7) (by omega) (by decide)).mpr h9)
        refine ps_st (S' := (35, [(4, .int 0), (3, .int (nI (by1 f p))), (0, .ref r), (1, .int (nI k)), (2, .int (nI t))], [.int (nI t)], M146)) rfl rfl rfl ?_
        refine ps_st (S' := (37, [(4, .int 0), (3, .int (nI (by1 f p))), (0, .ref r), (1, .int (nI k)), (2, .int (nI t))], [.int 8, .int (nI t)], M146)) rfl rfl rfl ?_
        refine ps_if2 (S1 := (74, [(0, .ref r), (1, .int (nI k)), (3, .int (nI (by1 f p))), (4, .int 0)], [], M146)) (S2 := (40, [(4, .int 0), (3, .int (nI (by1 f p))), (0, .ref r), (1, .int (nI k)), (2, .int (nI t))], [], M146)) rfl rfl rfl (fun c_37 => ?_) (fun c_37 => ?_)
        · have c_37 : (nI t) = 8 := of_decide_eq_true c_37
          have n_37 : t = 8 := (eq_nI (p := t) (n := 8) (by omega) (by decide)).mp c_37
          refine ps_st (S' := (75, [(0, .ref r), (1, .int (nI k)), (3, .int (nI (by1 f p))), (4, .int 0)], [.ref r], M146)) rfl rfl rfl ?_
          refine ps_get (S' := (78, [(0, .ref r), (1, .int (nI k)), (3, .int (nI (by1 f p))), (4, .int 0)], [.ref c], M146)) rfl h148 rfl rfl ?_
          refine ps_get (S' := (81, [(0, .ref r), (1, .int (nI k)), (3, .int (nI (by1 f p))), (4, .int 0)], [.ref pq], M146)) rfl h154 rfl rfl ?_
          refine ps_st (S' := (82, [(0, .ref r), (1, .int (nI k)), (3, .int (nI (by1 f p))), (4, .int 0)], [.int (nI k), .ref pq], M146)) rfl rfl rfl ?_
          refine ps_st (S' := (83, [(0, .ref r), (1, .int (nI k)), (3, .int (nI (by1 f p))), (4, .int 0)], [.int (nI (by1 f p)), .int (nI k), .ref pq], M146)) rfl rfl rfl ?_
          refine ps_st (S' := (85, [(0, .ref r), (1, .int (nI k)), (3, .int (nI (by1 f p))), (4, .int 0)], [.int 0, .int (nI (by1 f p)), .int (nI k), .ref pq], M146)) rfl rfl rfl ?_
          refine pl_call (a := [.ref pq, .int (nI k), .int (nI (by1 f p)), .int 0]) (rest := []) rfl rfl rfl (dx_setNumbers h155 h156 h157 h158 (hD) (hh) (hk)) (fun v175 M176 q177 => ?_)
          obtain ⟨rfl, h178, h179, f180⟩ := q177
          have h182 := (f180.1 r (nin2 (ob_ar h148 h157) (ob_ar h148 h158))).trans h148
          have h183 := (f180.1 b (nin2 (ob_ar h152 h157) (ob_ar h152 h158))).trans h152
          have h184 := (f180.1 da (nin2 (ar_ne h153 h157 (by decide)) (ar_ne h153 h158 (by decide)))).trans h153
          have h185 := (f180.1 vd (nin2 (ob_ar h149 h157) (ob_ar h149 h158))).trans h149
          have h186 := (f180.1 c (nin2 (ob_ar h154 h157) (ob_ar h154 h158))).trans h154
          have h187 := (f180.1 pq (nin2 (ob_ar h155 h157) (ob_ar h155 h158))).trans h155
          have h188 := (f180.1 q1 (nin2 hD.1.2.1 hD.1.2.2.1)).trans h156
          have hF189 := hF159.tr f180 (by simp)
          show pl _ _ _ (88, [(0, .ref r), (1, .int (nI k)), (3, .int (nI (by1 f p))), (4, .int 0)], [], M176) _
          refine ps_st (S' := (89, [(0, .ref r), (1, .int (nI k)), (3, .int (nI (by1 f p))), (4, .int 0)], [.int 1], M176)) rfl rfl rfl ?_
          exact ps_ret rfl rfl (Or.inl ⟨p + 1, (by1 f p), 0, _, by
              unfold s_ix
              repeat' split
              all_goals first | rfl | (exfalso; omega), rfl, h182, h185, h178, h179, hF189⟩)
        · have c_37 : ¬ ((nI t) = 8) := of_decide_eq_false c_37
          have n_37 : ¬ (t = 8) := fun h9 => c_37 ((eq_nI (p := t) (n := 8) (by omega) (by decide)).mpr h9)
          refine ps_st (S' := (41, [(4, .int 0), (3, .int (nI (by1 f p))), (0, .ref r), (1, .int (nI k)), (2, .int (nI t))], [.int (nI t)], M146)) rfl rfl rfl ?_
          refine ps_st (S' := (43, [(4, .int 0), (3, .int (nI (by1 f p))), (0, .ref r), (1, .int (nI k)), (2, .int (nI t))], [.int 16, .int (nI t)], M146)) rfl rfl rfl ?_
          refine ps_if2 (S1 := (74, [(0, .ref r), (1, .int (nI k)), (3, .int (nI (by1 f p))), (4, .int 0)], [], M146)) (S2 := (46, [(4, .int 0), (3, .int (nI (by1 f p))), (0, .ref r), (1, .int (nI k)), (2, .int (nI t))], [], M146)) rfl rfl rfl (fun c_43 => ?_) (fun c_43 => ?_)
          · have c_43 : (nI t) = 16 := of_decide_eq_true c_43
            have n_43 : t = 16 := (eq_nI (p := t) (n := 16) (by omega) (by decide)).mp c_43
            refine ps_st (S' := (75, [(0, .ref r), (1, .int (nI k)), (3, .int (nI (by1 f p))), (4, .int 0)], [.ref r], M146)) rfl rfl rfl ?_
            refine ps_get (S' := (78, [(0, .ref r), (1, .int (nI k)), (3, .int (nI (by1 f p))), (4, .int 0)], [.ref c], M146)) rfl h148 rfl rfl ?_
            refine ps_get (S' := (81, [(0, .ref r), (1, .int (nI k)), (3, .int (nI (by1 f p))), (4, .int 0)], [.ref pq], M146)) rfl h154 rfl rfl ?_
            refine ps_st (S' := (82, [(0, .ref r), (1, .int (nI k)), (3, .int (nI (by1 f p))), (4, .int 0)], [.int (nI k), .ref pq], M146)) rfl rfl rfl ?_
            refine ps_st (S' := (83, [(0, .ref r), (1, .int (nI k)), (3, .int (nI (by1 f p))), (4, .int 0)], [.int (nI (by1 f p)), .int (nI k), .ref pq], M146)) rfl rfl rfl ?_
            refine ps_st (S' := (85, [(0, .ref r), (1, .int (nI k)), (3, .int (nI (by1 f p))), (4, .int 0)], [.int 0, .int (nI (by1 f p)), .int (nI k), .ref pq], M146)) rfl rfl rfl ?_
            refine pl_call (a := [.ref pq, .int (nI k), .int (nI (by1 f p)), .int 0]) (rest := []) rfl rfl rfl (dx_setNumbers h155 h156 h157 h158 (hD) (hh) (hk)) (fun v190 M191 q192 => ?_)
            obtain ⟨rfl, h193, h194, f195⟩ := q192
            have h197 := (f195.1 r (nin2 (ob_ar h148 h157) (ob_ar h148 h158))).trans h148
            have h198 := (f195.1 b (nin2 (ob_ar h152 h157) (ob_ar h152 h158))).trans h152
            have h199 := (f195.1 da (nin2 (ar_ne h153 h157 (by decide)) (ar_ne h153 h158 (by decide)))).trans h153
            have h200 := (f195.1 vd (nin2 (ob_ar h149 h157) (ob_ar h149 h158))).trans h149
            have h201 := (f195.1 c (nin2 (ob_ar h154 h157) (ob_ar h154 h158))).trans h154
            have h202 := (f195.1 pq (nin2 (ob_ar h155 h157) (ob_ar h155 h158))).trans h155
            have h203 := (f195.1 q1 (nin2 hD.1.2.1 hD.1.2.2.1)).trans h156
            have hF204 := hF159.tr f195 (by simp)
            show pl _ _ _ (88, [(0, .ref r), (1, .int (nI k)), (3, .int (nI (by1 f p))), (4, .int 0)], [], M191) _
            refine ps_st (S' := (89, [(0, .ref r), (1, .int (nI k)), (3, .int (nI (by1 f p))), (4, .int 0)], [.int 1], M191)) rfl rfl rfl ?_
            exact ps_ret rfl rfl (Or.inl ⟨p + 1, (by1 f p), 0, _, by
                unfold s_ix
                repeat' split
                all_goals first | rfl | (exfalso; omega), rfl, h197, h200, h193, h194, hF204⟩)
          · have c_43 : ¬ ((nI t) = 16) := of_decide_eq_false c_43
            have n_43 : ¬ (t = 16) := fun h9 => c_43 ((eq_nI (p := t) (n := 16) (by omega) (by decide)).mpr h9)
            refine ps_st (S' := (47, [(4, .int 0), (3, .int (nI (by1 f p))), (0, .ref r), (1, .int (nI k)), (2, .int (nI t))], [.int (nI t)], M146)) rfl rfl rfl ?_
            refine ps_st (S' := (49, [(4, .int 0), (3, .int (nI (by1 f p))), (0, .ref r), (1, .int (nI k)), (2, .int (nI t))], [.int 19, .int (nI t)], M146)) rfl rfl rfl ?_
            refine ps_if2 (S1 := (74, [(0, .ref r), (1, .int (nI k)), (3, .int (nI (by1 f p))), (4, .int 0)], [], M146)) (S2 := (52, [(4, .int 0), (3, .int (nI (by1 f p))), (0, .ref r), (1, .int (nI k)), (2, .int (nI t))], [], M146)) rfl rfl rfl (fun c_49 => ?_) (fun c_49 => ?_)
            · have c_49 : (nI t) = 19 := of_decide_eq_true c_49
              have n_49 : t = 19 := (eq_nI (p := t) (n := 19) (by omega) (by decide)).mp c_49
              refine ps_st (S' := (75, [(0, .ref r), (1, .int (nI k)), (3, .int (nI (by1 f p))), (4, .int 0)], [.ref r], M146)) rfl rfl rfl ?_
              refine ps_get (S' := (78, [(0, .ref r), (1, .int (nI k)), (3, .int (nI (by1 f p))), (4, .int 0)], [.ref c], M146)) rfl h148 rfl rfl ?_
              refine ps_get (S' := (81, [(0, .ref r), (1, .int (nI k)), (3, .int (nI (by1 f p))), (4, .int 0)], [.ref pq], M146)) rfl h154 rfl rfl ?_
              refine ps_st (S' := (82, [(0, .ref r), (1, .int (nI k)), (3, .int (nI (by1 f p))), (4, .int 0)], [.int (nI k), .ref pq], M146)) rfl rfl rfl ?_
              refine ps_st (S' := (83, [(0, .ref r), (1, .int (nI k)), (3, .int (nI (by1 f p))), (4, .int 0)], [.int (nI (by1 f p)), .int (nI k), .ref pq], M146)) rfl rfl rfl ?_
              refine ps_st (S' := (85, [(0, .ref r), (1, .int (nI k)), (3, .int (nI (by1 f p))), (4, .int 0)], [.int 0, .int (nI (by1 f p)), .int (nI k), .ref pq], M146)) rfl rfl rfl ?_
              refine pl_call (a := [.ref pq, .int (nI k), .int (nI (by1 f p)), .int 0]) (rest := []) rfl rfl rfl (dx_setNumbers h155 h156 h157 h158 (hD) (hh) (hk)) (fun v205 M206 q207 => ?_)
              obtain ⟨rfl, h208, h209, f210⟩ := q207
              have h212 := (f210.1 r (nin2 (ob_ar h148 h157) (ob_ar h148 h158))).trans h148
              have h213 := (f210.1 b (nin2 (ob_ar h152 h157) (ob_ar h152 h158))).trans h152
              have h214 := (f210.1 da (nin2 (ar_ne h153 h157 (by decide)) (ar_ne h153 h158 (by decide)))).trans h153
              have h215 := (f210.1 vd (nin2 (ob_ar h149 h157) (ob_ar h149 h158))).trans h149
              have h216 := (f210.1 c (nin2 (ob_ar h154 h157) (ob_ar h154 h158))).trans h154
              have h217 := (f210.1 pq (nin2 (ob_ar h155 h157) (ob_ar h155 h158))).trans h155
              have h218 := (f210.1 q1 (nin2 hD.1.2.1 hD.1.2.2.1)).trans h156
              have hF219 := hF159.tr f210 (by simp)
              show pl _ _ _ (88, [(0, .ref r), (1, .int (nI k)), (3, .int (nI (by1 f p))), (4, .int 0)], [], M206) _
              refine ps_st (S' := (89, [(0, .ref r), (1, .int (nI k)), (3, .int (nI (by1 f p))), (4, .int 0)], [.int 1], M206)) rfl rfl rfl ?_
              exact ps_ret rfl rfl (Or.inl ⟨p + 1, (by1 f p), 0, _, by
                  unfold s_ix
                  repeat' split
                  all_goals first | rfl | (exfalso; omega), rfl, h212, h215, h208, h209, hF219⟩)
            · have c_49 : ¬ ((nI t) = 19) := of_decide_eq_false c_49
              have n_49 : ¬ (t = 19) := fun h9 => c_49 ((eq_nI (p := t) (n := 19) (by omega) (by decide)).mpr h9)
              refine ps_st (S' := (53, [(4, .int 0), (3, .int (nI (by1 f p))), (0, .ref r), (1, .int (nI k)), (2, .int (nI t))], [.int (nI t)], M146)) rfl rfl rfl ?_
              refine ps_st (S' := (55, [(4, .int 0), (3, .int (nI (by1 f p))), (0, .ref r), (1, .int (nI k)), (2, .int (nI t))], [.int 20, .int (nI t)], M146)) rfl rfl rfl ?_
              refine ps_if2 (S1 := (74, [(0, .ref r), (1, .int (nI k)), (3, .int (nI (by1 f p))), (4, .int 0)], [], M146)) (S2 := (58, [(4, .int 0), (3, .int (nI (by1 f p))), (0, .ref r), (1, .int (nI k)), (2, .int (nI t))], [], M146)) rfl rfl rfl (fun c_55 => ?_) (fun c_55 => ?_)
              · have c_55 : (nI t) = 20 := of_decide_eq_true c_55
                have n_55 : t = 20 := (eq_nI (p := t) (n := 20) (by omega) (by decide)).mp c_55
                refine ps_st (S' := (75, [(0, .ref r), (1, .int (nI k)), (3, .int (nI (by1 f p))), (4, .int 0)], [.ref r], M146)) rfl rfl rfl ?_
                refine ps_get (S' := (78, [(0, .ref r), (1, .int (nI k)), (3, .int (nI (by1 f p))), (4, .int 0)], [.ref c], M146)) rfl h148 rfl rfl ?_
                refine ps_get (S' := (81, [(0, .ref r), (1, .int (nI k)), (3, .int (nI (by1 f p))), (4, .int 0)], [.ref pq], M146)) rfl h154 rfl rfl ?_
                refine ps_st (S' := (82, [(0, .ref r), (1, .int (nI k)), (3, .int (nI (by1 f p))), (4, .int 0)], [.int (nI k), .ref pq], M146)) rfl rfl rfl ?_
                refine ps_st (S' := (83, [(0, .ref r), (1, .int (nI k)), (3, .int (nI (by1 f p))), (4, .int 0)], [.int (nI (by1 f p)), .int (nI k), .ref pq], M146)) rfl rfl rfl ?_
                refine ps_st (S' := (85, [(0, .ref r), (1, .int (nI k)), (3, .int (nI (by1 f p))), (4, .int 0)], [.int 0, .int (nI (by1 f p)), .int (nI k), .ref pq], M146)) rfl rfl rfl ?_
                refine pl_call (a := [.ref pq, .int (nI k), .int (nI (by1 f p)), .int 0]) (rest := []) rfl rfl rfl (dx_setNumbers h155 h156 h157 h158 (hD) (hh) (hk)) (fun v220 M221 q222 => ?_)
                obtain ⟨rfl, h223, h224, f225⟩ := q222
                have h227 := (f225.1 r (nin2 (ob_ar h148 h157) (ob_ar h148 h158))).trans h148
                have h228 := (f225.1 b (nin2 (ob_ar h152 h157) (ob_ar h152 h158))).trans h152
                have h229 := (f225.1 da (nin2 (ar_ne h153 h157 (by decide)) (ar_ne h153 h158 (by decide)))).trans h153
                have h230 := (f225.1 vd (nin2 (ob_ar h149 h157) (ob_ar h149 h158))).trans h149
                have h231 := (f225.1 c (nin2 (ob_ar h154 h157) (ob_ar h154 h158))).trans h154
                have h232 := (f225.1 pq (nin2 (ob_ar h155 h157) (ob_ar h155 h158))).trans h155
                have h233 := (f225.1 q1 (nin2 hD.1.2.1 hD.1.2.2.1)).trans h156
                have hF234 := hF159.tr f225 (by simp)
                show pl _ _ _ (88, [(0, .ref r), (1, .int (nI k)), (3, .int (nI (by1 f p))), (4, .int 0)], [], M221) _
                refine ps_st (S' := (89, [(0, .ref r), (1, .int (nI k)), (3, .int (nI (by1 f p))), (4, .int 0)], [.int 1], M221)) rfl rfl rfl ?_
                exact ps_ret rfl rfl (Or.inl ⟨p + 1, (by1 f p), 0, _, by
                    unfold s_ix
                    repeat' split
                    all_goals first | rfl | (exfalso; omega), rfl, h227, h230, h223, h224, hF234⟩)
              · have c_55 : ¬ ((nI t) = 20) := of_decide_eq_false c_55
                have n_55 : ¬ (t = 20) := fun h9 => c_55 ((eq_nI (p := t) (n := 20) (by omega) (by decide)).mpr h9)
                refine ps_st (S' := (59, [(4, .int 0), (3, .int (nI (by1 f p))), (0, .ref r), (1, .int (nI k)), (2, .int (nI t))], [.ref r], M146)) rfl rfl rfl ?_
                refine ps_st (S' := (60, [(4, .int 0), (3, .int (nI (by1 f p))), (0, .ref r), (1, .int (nI k)), (2, .int (nI t))], [.int 2, .ref r], M146)) rfl rfl rfl ?_
                refine pl_call (a := [.ref r, .int 2]) (rest := []) rfl rfl rfl (dx_takes2 h148 h152 h153 h149 (hn) (by omega)) (fun v235 M236 q237 => ?_)
                rcases q237 with q237 | q237
                · skip
                  obtain ⟨q60_ok, rfl, h238, h239, f240⟩ := q237
                  have h242 := (f240.1 b (nin2 (ob_ne h152 h148 (by decide)) (ob_ne h152 h149 (by decide)))).trans h152
                  have h243 := (f240.1 da (nin2 (Ne.symm (ob_ar h148 h153)) (Ne.symm (ob_ar h149 h153)))).trans h153
                  have h244 := (f240.1 c (nin2 (ob_ne h154 h148 (by decide)) (ob_ne h154 h149 (by decide)))).trans h154
                  have h245 := (f240.1 pq (nin2 (ob_ne h155 h148 (by decide)) (ob_ne h155 h149 (by decide)))).trans h155
                  have h246 := (f240.1 q1 (nin2 (Ne.symm (ob_ar h148 h156)) (Ne.symm (ob_ar h149 h156)))).trans h156
                  have h247 := (f240.1 q3 (nin2 (Ne.symm (ob_ar h148 h157)) (Ne.symm (ob_ar h149 h157)))).trans h157
                  have h248 := (f240.1 q4 (nin2 (Ne.symm (ob_ar h148 h158)) (Ne.symm (ob_ar h149 h158)))).trans h158
                  have hF249 := hF159.tr f240 (by simp)
                  show pl _ _ _ (63, [(4, .int 0), (3, .int (nI (by1 f p))), (0, .ref r), (1, .int (nI k)), (2, .int (nI t))], [.int 1], M236) _
                  refine ps_if (S1 := (68, [(4, .int 0), (3, .int (nI (by1 f p))), (0, .ref r), (1, .int (nI k)), (2, .int (nI t))], [], M236)) (S2 := (66, [(4, .int 0), (3, .int (nI (by1 f p))), (0, .ref r), (1, .int (nI k)), (2, .int (nI t))], [], M236)) rfl rfl rfl (fun c_63 => ?_) (fun c_63 => ?_)
                  rotate_left
                  · exact absurd (by decide) (of_decide_eq_false c_63)
                  refine ps_st (S' := (69, [(4, .int 0), (3, .int (nI (by1 f p))), (0, .ref r), (1, .int (nI k)), (2, .int (nI t))], [.ref r], M236)) rfl rfl rfl ?_
                  refine ps_get (S' := (72, [(4, .int 0), (3, .int (nI (by1 f p))), (0, .ref r), (1, .int (nI k)), (2, .int (nI t))], [.int (nI (by2 f (p + 1)))], M236)) rfl h238 rfl rfl ?_
                  refine ps_st (S' := (74, [(0, .ref r), (1, .int (nI k)), (3, .int (nI (by1 f p))), (4, .int (nI (by2 f (p + 1))))], [], M236)) rfl rfl rfl ?_
                  refine ps_st (S' := (75, [(0, .ref r), (1, .int (nI k)), (3, .int (nI (by1 f p))), (4, .int (nI (by2 f (p + 1))))], [.ref r], M236)) rfl rfl rfl ?_
                  refine ps_get (S' := (78, [(0, .ref r), (1, .int (nI k)), (3, .int (nI (by1 f p))), (4, .int (nI (by2 f (p + 1))))], [.ref c], M236)) rfl h238 rfl rfl ?_
                  refine ps_get (S' := (81, [(0, .ref r), (1, .int (nI k)), (3, .int (nI (by1 f p))), (4, .int (nI (by2 f (p + 1))))], [.ref pq], M236)) rfl h244 rfl rfl ?_
                  refine ps_st (S' := (82, [(0, .ref r), (1, .int (nI k)), (3, .int (nI (by1 f p))), (4, .int (nI (by2 f (p + 1))))], [.int (nI k), .ref pq], M236)) rfl rfl rfl ?_
                  refine ps_st (S' := (83, [(0, .ref r), (1, .int (nI k)), (3, .int (nI (by1 f p))), (4, .int (nI (by2 f (p + 1))))], [.int (nI (by1 f p)), .int (nI k), .ref pq], M236)) rfl rfl rfl ?_
                  refine ps_st (S' := (85, [(0, .ref r), (1, .int (nI k)), (3, .int (nI (by1 f p))), (4, .int (nI (by2 f (p + 1))))], [.int (nI (by2 f (p + 1))), .int (nI (by1 f p)), .int (nI k), .ref pq], M236)) rfl rfl rfl ?_
                  refine pl_call (a := [.ref pq, .int (nI k), .int (nI (by1 f p)), .int (nI (by2 f (p + 1)))]) (rest := []) rfl rfl rfl (dx_setNumbers h245 h246 h247 h248 (hD) (hh) (hk)) (fun v250 M251 q252 => ?_)
                  obtain ⟨rfl, h253, h254, f255⟩ := q252
                  have h257 := (f255.1 r (nin2 (ob_ar h238 h247) (ob_ar h238 h248))).trans h238
                  have h258 := (f255.1 b (nin2 (ob_ar h242 h247) (ob_ar h242 h248))).trans h242
                  have h259 := (f255.1 da (nin2 (ar_ne h243 h247 (by decide)) (ar_ne h243 h248 (by decide)))).trans h243
                  have h260 := (f255.1 vd (nin2 (ob_ar h239 h247) (ob_ar h239 h248))).trans h239
                  have h261 := (f255.1 c (nin2 (ob_ar h244 h247) (ob_ar h244 h248))).trans h244
                  have h262 := (f255.1 pq (nin2 (ob_ar h245 h247) (ob_ar h245 h248))).trans h245
                  have h263 := (f255.1 q1 (nin2 hD.1.2.1 hD.1.2.2.1)).trans h246
                  have hF264 := hF249.tr f255 (by simp)
                  show pl _ _ _ (88, [(0, .ref r), (1, .int (nI k)), (3, .int (nI (by1 f p))), (4, .int (nI (by2 f (p + 1))))], [], M251) _
                  refine ps_st (S' := (89, [(0, .ref r), (1, .int (nI k)), (3, .int (nI (by1 f p))), (4, .int (nI (by2 f (p + 1))))], [.int 1], M251)) rfl rfl rfl ?_
                  exact ps_ret rfl rfl (Or.inl ⟨p + 3, (by1 f p), by2 f (p + 1), _, by
                      unfold s_ix
                      repeat' split
                      all_goals first | rfl | (exfalso; omega), rfl, h257, h260, h253, h254, hF264⟩)
                · skip
                  obtain ⟨q60_no, rfl, h265, h266, f267⟩ := q237
                  have h269 := (f267.1 b (nin2 (ob_ne h152 h148 (by decide)) (ob_ne h152 h149 (by decide)))).trans h152
                  have h270 := (f267.1 da (nin2 (Ne.symm (ob_ar h148 h153)) (Ne.symm (ob_ar h149 h153)))).trans h153
                  have h271 := (f267.1 c (nin2 (ob_ne h154 h148 (by decide)) (ob_ne h154 h149 (by decide)))).trans h154
                  have h272 := (f267.1 pq (nin2 (ob_ne h155 h148 (by decide)) (ob_ne h155 h149 (by decide)))).trans h155
                  have h273 := (f267.1 q1 (nin2 (Ne.symm (ob_ar h148 h156)) (Ne.symm (ob_ar h149 h156)))).trans h156
                  have h274 := (f267.1 q3 (nin2 (Ne.symm (ob_ar h148 h157)) (Ne.symm (ob_ar h149 h157)))).trans h157
                  have h275 := (f267.1 q4 (nin2 (Ne.symm (ob_ar h148 h158)) (Ne.symm (ob_ar h149 h158)))).trans h158
                  have hF276 := hF159.tr f267 (by simp)
                  show pl _ _ _ (63, [(4, .int 0), (3, .int (nI (by1 f p))), (0, .ref r), (1, .int (nI k)), (2, .int (nI t))], [.int 0], M236) _
                  refine ps_if (S1 := (68, [(4, .int 0), (3, .int (nI (by1 f p))), (0, .ref r), (1, .int (nI k)), (2, .int (nI t))], [], M236)) (S2 := (66, [(4, .int 0), (3, .int (nI (by1 f p))), (0, .ref r), (1, .int (nI k)), (2, .int (nI t))], [], M236)) rfl rfl rfl (fun c_63 => ?_) (fun c_63 => ?_)
                  · exact absurd (of_decide_eq_true c_63) (by decide)
                  refine ps_st (S' := (67, [(4, .int 0), (3, .int (nI (by1 f p))), (0, .ref r), (1, .int (nI k)), (2, .int (nI t))], [.int 0], M236)) rfl rfl rfl ?_
                  exact ps_ret rfl rfl (Or.inr ⟨(1, p + 1), by
                      unfold s_ix
                      repeat' split
                      all_goals first | rfl | (exfalso; omega), rfl, h266, hF276⟩)
    · skip
      obtain ⟨q12_no, rfl, h277, h278, f279⟩ := q147
      have h281 := (f279.1 b (nin2 (ob_ne h_b h_r (by decide)) (ob_ne h_b h_vd (by decide)))).trans h_b
      have h282 := (f279.1 da (nin2 (Ne.symm (ob_ar h_r h_da)) (Ne.symm (ob_ar h_vd h_da)))).trans h_da
      have h283 := (f279.1 c (nin2 (ob_ne h_c h_r (by decide)) (ob_ne h_c h_vd (by decide)))).trans h_c
      have h284 := (f279.1 pq (nin2 (ob_ne h_pq h_r (by decide)) (ob_ne h_pq h_vd (by decide)))).trans h_pq
      have h285 := (f279.1 q1 (nin2 (Ne.symm (ob_ar h_r h_q1)) (Ne.symm (ob_ar h_vd h_q1)))).trans h_q1
      have h286 := (f279.1 q3 (nin2 (Ne.symm (ob_ar h_r h_q3)) (Ne.symm (ob_ar h_vd h_q3)))).trans h_q3
      have h287 := (f279.1 q4 (nin2 (Ne.symm (ob_ar h_r h_q4)) (Ne.symm (ob_ar h_vd h_q4)))).trans h_q4
      have hF288 := hF.tr f279 (by simp)
      show pl _ _ _ (15, [(0, .ref r), (1, .int (nI k)), (2, .int (nI t))], [.int 0], M146) _
      refine ps_if (S1 := (20, [(0, .ref r), (1, .int (nI k)), (2, .int (nI t))], [], M146)) (S2 := (18, [(0, .ref r), (1, .int (nI k)), (2, .int (nI t))], [], M146)) rfl rfl rfl (fun c_15 => ?_) (fun c_15 => ?_)
      · exact absurd (of_decide_eq_true c_15) (by decide)
      refine ps_st (S' := (19, [(0, .ref r), (1, .int (nI k)), (2, .int (nI t))], [.int 0], M146)) rfl rfl rfl ?_
      exact ps_ret rfl rfl (Or.inr ⟨(1, p), by
          unfold s_ix
          repeat' split
          all_goals first | rfl | (exfalso; omega), rfl, h278, hF288⟩)
theorem s_ix_le {f : Nat → Int32} {n t p p' x y : Nat} (h : s_ix f n t (p + 1) = .inr (p', x, y)) : p + 3 ≤ p' ∧ p' ≤ n := by
  unfold s_ix at h
  repeat' split at h
  all_goals first | (cases h; omega) | cases h
set_option maxHeartbeats 1000000 in
theorem dx_takesEntry {g : xe_G} {M : mi_H} {r c b vd da n p mj N : Nat} {f : Nat → Int32} {it ru wa mi fa ic ac aa k1 k2 k3 k4 k5 k6 k7 : Int32} {u6 u7 : Value} {pq q1 q2 q3 q4 q5 q6 hd m cc : Nat} {F1 F2 F3 F4 F6 : Nat → Int32} {k : Nat} (h_r : M.1 r = some (ob 9 [.ref c, .ref b, .ref vd, .int (nI p), .int it])) (h_b : M.1 b = some (ob 1 [.ref da])) (h_da : M.1 da = some (ar .byte n f)) (h_vd : M.1 vd = some (ob 10 [.int ru, .int wa])) (h_c : M.1 c = some (ob 3 [.ref b, .ref pq, .int mi, .int (nI mj), .int fa, .int ic, u6, u7, .int ac, .int aa, .int k1, .int k2, .int k3, .int k4, .int k5, .int k6, .int k7])) (h_pq : M.1 pq = some (ob 7 [.int (nI N), .ref q1, .ref q2, .ref q3, .ref q4, .ref q5, .ref q6, .int (nI cc)])) (h_q1 : M.1 q1 = some (ar .int hd F1)) (h_q3 : M.1 q3 = some (ar .int hd F3)) (h_q4 : M.1 q4 = some (ar .int hd F4)) (h_q2 : M.1 q2 = some (ar .int hd F2)) (h_q6 : M.1 q6 = some (ar .char m F6)) (hn : n ≤ 65540) (hp : p ≤ n) (hD : dst5 q1 q2 q3 q4 q5) (hh : hd < 1073741824) (hm : m = n) (hc : cc ≤ p) (hN : N < 65536) (hj : mj < 65536) (hk : k < N) (hk3 : p + 1 ≤ n → k < hd) : pt (mT g) 163 [.ref r, .int (nI k)] M (fun v M' => (∃ (p' : Nat) (l : List Nat) (it' : Int32), (s_entry f n mj N k p = .inr (p', .inl l)) ∧ (cc + l.length ≤ p') ∧ (p + 3 ≤ p' ∧ p' ≤ n) ∧ v = some (.int 1) ∧ M'.1 q1 = some (ar .int hd (upd F1 k (nI (by1 f p)))) ∧ M'.1 q2 = some (ar .int hd (upd F2 k (nI p))) ∧ M'.1 r = some (ob 9 [.ref c, .ref b, .ref vd, .int (nI p'), .int it']) ∧ M'.1 vd = some (ob 10 [.int ru, .int wa]) ∧ M'.1 pq = some (ob 7 [.int (nI N), .ref q1, .ref q2, .ref q3, .ref q4, .ref q5, .ref q6, .int (nI (cc + l.length))]) ∧ M'.1 q3 = some (ar .int hd (upd F3 k (nI cc))) ∧ M'.1 q4 = some (ar .int hd (upd F4 k (nI l.length))) ∧ M'.1 q6 = some (ar .char m (wr F6 cc l)) ∧ fm [r, vd, pq, q1, q2, q3, q4, q6] M M') ∨ (∃ (p' : Nat) (it' : Int32), (s_entry f n mj N k p = .inr (p', .inr none)) ∧ (p + 3 ≤ p' ∧ p' ≤ n) ∧ v = some (.int 1) ∧ M'.1 q1 = some (ar .int hd (upd F1 k (nI (by1 f p)))) ∧ M'.1 q2 = some (ar .int hd (upd F2 k (nI p))) ∧ M'.1 r = some (ob 9 [.ref c, .ref b, .ref vd, .int (nI p'), .int it']) ∧ M'.1 vd = some (ob 10 [.int ru, .int wa]) ∧ M'.1 pq = some (ob 7 [.int (nI N), .ref q1, .ref q2, .ref q3, .ref q4, .ref q5, .ref q6, .int (nI cc)]) ∧ M'.1 q3 = some (ar .int hd F3) ∧ M'.1 q4 = some (ar .int hd F4) ∧ M'.1 q6 = some (ar .char m F6) ∧ fm [r, vd, pq, q1, q2, q3, q4, q6] M M') ∨ (∃ (p' x y : Nat) (it' : Int32), (s_entry f n mj N k p = .inr (p', .inr (some (x, y)))) ∧ (p + 3 ≤ p' ∧ p' ≤ n) ∧ v = some (.int 1) ∧ M'.1 q1 = some (ar .int hd (upd F1 k (nI (by1 f p)))) ∧ M'.1 q2 = some (ar .int hd (upd F2 k (nI p))) ∧ M'.1 r = some (ob 9 [.ref c, .ref b, .ref vd, .int (nI p'), .int it']) ∧ M'.1 vd = some (ob 10 [.int ru, .int wa]) ∧ M'.1 pq = some (ob 7 [.int (nI N), .ref q1, .ref q2, .ref q3, .ref q4, .ref q5, .ref q6, .int (nI cc)]) ∧ M'.1 q3 = some (ar .int hd (upd F3 k (nI x))) ∧ M'.1 q4 = some (ar .int hd (upd F4 k (nI y))) ∧ M'.1 q6 = some (ar .char m F6) ∧ fm [r, vd, pq, q1, q2, q3, q4, q6] M M') ∨ (∃ (e : Nat × Nat), (s_entry f n mj N k p = .inl e) ∧ v = some (.int 0) ∧ M'.1 vd = some (ob 10 [.int (nI e.1), .int (nI e.2)]) ∧ fm [r, vd, pq, q1, q2, q3, q4, q6] M M')) := by
  refine pt_in (b := mb_163 g) rfl (fun kf => ?_)
  show pl (mT g) kf (mb_163 g).2 (0, [(0, .ref r), (1, .int (nI k))], [], M) _
  have hF : fm [r, vd, pq, q1, q2, q3, q4, q6] M M := fm.rf
  have hb1 := by1_lt f p
  have hb2 := by2_lt f (p + 1)
  refine ps_st (S' := (1, [(0, .ref r), (1, .int (nI k))], [.ref r], M)) rfl rfl rfl ?_
  refine ps_get (S' := (4, [(0, .ref r), (1, .int (nI k))], [.int (nI p)], M)) rfl h_r rfl rfl ?_
  refine ps_st (S' := (5, [(2, .int (nI p)), (0, .ref r), (1, .int (nI k))], [], M)) rfl rfl rfl ?_
  refine ps_st (S' := (6, [(2, .int (nI p)), (0, .ref r), (1, .int (nI k))], [.ref r], M)) rfl rfl rfl ?_
  refine ps_st (S' := (7, [(2, .int (nI p)), (0, .ref r), (1, .int (nI k))], [.int 1, .ref r], M)) rfl rfl rfl ?_
  refine pl_call (a := [.ref r, .int 1]) (rest := []) rfl rfl rfl (dx_takes1 h_r h_b h_da h_vd (hn) (by omega)) (fun v1 M2 q3 => ?_)
  rcases q3 with q3 | q3
  · skip
    obtain ⟨q7_ok, rfl, h4, h5, f6⟩ := q3
    have h8 := (f6.1 b (nin2 (ob_ne h_b h_r (by decide)) (ob_ne h_b h_vd (by decide)))).trans h_b
    have h9 := (f6.1 da (nin2 (Ne.symm (ob_ar h_r h_da)) (Ne.symm (ob_ar h_vd h_da)))).trans h_da
    have h10 := (f6.1 c (nin2 (ob_ne h_c h_r (by decide)) (ob_ne h_c h_vd (by decide)))).trans h_c
    have h11 := (f6.1 pq (nin2 (ob_ne h_pq h_r (by decide)) (ob_ne h_pq h_vd (by decide)))).trans h_pq
    have h12 := (f6.1 q1 (nin2 (Ne.symm (ob_ar h_r h_q1)) (Ne.symm (ob_ar h_vd h_q1)))).trans h_q1
    have h13 := (f6.1 q3 (nin2 (Ne.symm (ob_ar h_r h_q3)) (Ne.symm (ob_ar h_vd h_q3)))).trans h_q3
    have h14 := (f6.1 q4 (nin2 (Ne.symm (ob_ar h_r h_q4)) (Ne.symm (ob_ar h_vd h_q4)))).trans h_q4
    have h15 := (f6.1 q2 (nin2 (Ne.symm (ob_ar h_r h_q2)) (Ne.symm (ob_ar h_vd h_q2)))).trans h_q2
    have h16 := (f6.1 q6 (nin2 (Ne.symm (ob_ar h_r h_q6)) (Ne.symm (ob_ar h_vd h_q6)))).trans h_q6
    have hF17 := hF.tr f6 (by simp)
    show pl _ _ _ (10, [(2, .int (nI p)), (0, .ref r), (1, .int (nI k))], [.int 1], M2) _
    refine ps_if (S1 := (15, [(2, .int (nI p)), (0, .ref r), (1, .int (nI k))], [], M2)) (S2 := (13, [(2, .int (nI p)), (0, .ref r), (1, .int (nI k))], [], M2)) rfl rfl rfl (fun c_10 => ?_) (fun c_10 => ?_)
    rotate_left
    · exact absurd (by decide) (of_decide_eq_false c_10)
    refine ps_st (S' := (16, [(2, .int (nI p)), (0, .ref r), (1, .int (nI k))], [.ref r], M2)) rfl rfl rfl ?_
    refine ps_get (S' := (19, [(2, .int (nI p)), (0, .ref r), (1, .int (nI k))], [.int (nI (by1 f p))], M2)) rfl h4 rfl rfl ?_
    refine ps_st (S' := (20, [(3, .int (nI (by1 f p))), (2, .int (nI p)), (0, .ref r), (1, .int (nI k))], [], M2)) rfl rfl rfl ?_
    refine ps_st (S' := (21, [(3, .int (nI (by1 f p))), (2, .int (nI p)), (0, .ref r), (1, .int (nI k))], [.ref r], M2)) rfl rfl rfl ?_
    refine ps_st (S' := (22, [(3, .int (nI (by1 f p))), (2, .int (nI p)), (0, .ref r), (1, .int (nI k))], [.int (nI (by1 f p)), .ref r], M2)) rfl rfl rfl ?_
    refine pl_call (a := [.ref r, .int (nI (by1 f p))]) (rest := []) rfl rfl rfl (dx_isTag h4 h10 (by1_lt _ _) (hj)) (fun v18 M19 q20 => ?_)
    rcases q20 with q20 | q20
    · skip
      obtain ⟨q22_y, rfl, f21⟩ := q20
      have h23 := (f21.1 r (by simp)).trans h4
      have h24 := (f21.1 b (by simp)).trans h8
      have h25 := (f21.1 da (by simp)).trans h9
      have h26 := (f21.1 vd (by simp)).trans h5
      have h27 := (f21.1 c (by simp)).trans h10
      have h28 := (f21.1 pq (by simp)).trans h11
      have h29 := (f21.1 q1 (by simp)).trans h12
      have h30 := (f21.1 q3 (by simp)).trans h13
      have h31 := (f21.1 q4 (by simp)).trans h14
      have h32 := (f21.1 q2 (by simp)).trans h15
      have h33 := (f21.1 q6 (by simp)).trans h16
      have hF34 := hF17.tr f21 (by simp)
      show pl _ _ _ (25, [(3, .int (nI (by1 f p))), (2, .int (nI p)), (0, .ref r), (1, .int (nI k))], [.int 1], M19) _
      refine ps_if (S1 := (38, [(3, .int (nI (by1 f p))), (2, .int (nI p)), (0, .ref r), (1, .int (nI k))], [], M19)) (S2 := (28, [(3, .int (nI (by1 f p))), (2, .int (nI p)), (0, .ref r), (1, .int (nI k))], [], M19)) rfl rfl rfl (fun c_25 => ?_) (fun c_25 => ?_)
      rotate_left
      · exact absurd (by decide) (of_decide_eq_false c_25)
      refine ps_st (S' := (39, [(3, .int (nI (by1 f p))), (2, .int (nI p)), (0, .ref r), (1, .int (nI k))], [.int (nI (by1 f p))], M19)) rfl rfl rfl ?_
      refine ps_st (S' := (40, [(3, .int (nI (by1 f p))), (2, .int (nI p)), (0, .ref r), (1, .int (nI k))], [.int 5, .int (nI (by1 f p))], M19)) rfl rfl rfl ?_
      refine ps_if2 (S1 := (49, [(0, .ref r), (1, .int (nI k)), (2, .int (nI p)), (3, .int (nI (by1 f p)))], [], M19)) (S2 := (43, [(3, .int (nI (by1 f p))), (2, .int (nI p)), (0, .ref r), (1, .int (nI k))], [], M19)) rfl rfl rfl (fun c_40 => ?_) (fun c_40 => ?_)
      · have c_40 : (nI (by1 f p)) = 5 := of_decide_eq_true c_40
        have n_40 : by1 f p = 5 := (eq_nI (p := by1 f p) (n := 5) (Nat.lt_trans (by1_lt _ _) (by decide)) (by decide)).mp c_40
        refine ps_st (S' := (50, [(0, .ref r), (1, .int (nI k)), (2, .int (nI p)), (3, .int (nI (by1 f p)))], [.int (nI k)], M19)) rfl rfl rfl ?_
        refine ps_st (S' := (51, [(0, .ref r), (1, .int (nI k)), (2, .int (nI p)), (3, .int (nI (by1 f p)))], [.int 1, .int (nI k)], M19)) rfl rfl rfl ?_
        refine ps_st (S' := (52, [(0, .ref r), (1, .int (nI k)), (2, .int (nI p)), (3, .int (nI (by1 f p)))], [.int ((nI k) + 1)], M19)) rfl rfl rfl ?_
        rw [nI_add1 (p := k) (k := 1) (x := 1) rfl (by omega)]
        show pl _ _ _ (_, [(0, .ref r), (1, .int (nI k)), (2, .int (nI p)), (3, .int (nI (by1 f p)))], [.int (nI (k + 1))], M19) _
        refine ps_st (S' := (53, [(0, .ref r), (1, .int (nI k)), (2, .int (nI p)), (3, .int (nI (by1 f p)))], [.ref r, .int (nI (k + 1))], M19)) rfl rfl rfl ?_
        refine ps_get (S' := (56, [(0, .ref r), (1, .int (nI k)), (2, .int (nI p)), (3, .int (nI (by1 f p)))], [.ref c, .int (nI (k + 1))], M19)) rfl h23 rfl rfl ?_
        refine ps_get (S' := (59, [(0, .ref r), (1, .int (nI k)), (2, .int (nI p)), (3, .int (nI (by1 f p)))], [.ref pq, .int (nI (k + 1))], M19)) rfl h27 rfl rfl ?_
        refine ps_get (S' := (62, [(0, .ref r), (1, .int (nI k)), (2, .int (nI p)), (3, .int (nI (by1 f p)))], [.int (nI N), .int (nI (k + 1))], M19)) rfl h28 rfl rfl ?_
        refine ps_if2 (S1 := (76, [(0, .ref r), (1, .int (nI k)), (2, .int (nI p)), (3, .int (nI (by1 f p)))], [], M19)) (S2 := (65, [(0, .ref r), (1, .int (nI k)), (2, .int (nI p)), (3, .int (nI (by1 f p)))], [], M19)) rfl rfl rfl (fun c_62 => ?_) (fun c_62 => ?_)
        · have c_62 : (nI (k + 1)) < (nI N) := of_decide_eq_true c_62
          have n_62 : k + 1 < N := (lt_nI (p := k + 1) (n := N) (by omega) (by omega)).mp c_62
          refine ps_st (S' := (77, [(0, .ref r), (1, .int (nI k)), (2, .int (nI p)), (3, .int (nI (by1 f p)))], [.ref r], M19)) rfl rfl rfl ?_
          refine ps_get (S' := (80, [(0, .ref r), (1, .int (nI k)), (2, .int (nI p)), (3, .int (nI (by1 f p)))], [.ref c], M19)) rfl h23 rfl rfl ?_
          refine ps_get (S' := (83, [(0, .ref r), (1, .int (nI k)), (2, .int (nI p)), (3, .int (nI (by1 f p)))], [.ref pq], M19)) rfl h27 rfl rfl ?_
          refine ps_st (S' := (84, [(0, .ref r), (1, .int (nI k)), (2, .int (nI p)), (3, .int (nI (by1 f p)))], [.int (nI k), .ref pq], M19)) rfl rfl rfl ?_
          refine ps_st (S' := (85, [(0, .ref r), (1, .int (nI k)), (2, .int (nI p)), (3, .int (nI (by1 f p)))], [.int (nI (by1 f p)), .int (nI k), .ref pq], M19)) rfl rfl rfl ?_
          refine ps_st (S' := (86, [(0, .ref r), (1, .int (nI k)), (2, .int (nI p)), (3, .int (nI (by1 f p)))], [.int (nI p), .int (nI (by1 f p)), .int (nI k), .ref pq], M19)) rfl rfl rfl ?_
          refine pl_call (a := [.ref pq, .int (nI k), .int (nI (by1 f p)), .int (nI p)]) (rest := []) rfl rfl rfl (dx_setTag h28 h29 h32 (hD) (hh) (hk3 (by omega))) (fun v35 M36 q37 => ?_)
          obtain ⟨rfl, h38, h39, f40⟩ := q37
          have h42 := (f40.1 r (nin2 (ob_ar h23 h29) (ob_ar h23 h32))).trans h23
          have h43 := (f40.1 b (nin2 (ob_ar h24 h29) (ob_ar h24 h32))).trans h24
          have h44 := (f40.1 da (nin2 (ar_ne h25 h29 (by decide)) (ar_ne h25 h32 (by decide)))).trans h25
          have h45 := (f40.1 vd (nin2 (ob_ar h26 h29) (ob_ar h26 h32))).trans h26
          have h46 := (f40.1 c (nin2 (ob_ar h27 h29) (ob_ar h27 h32))).trans h27
          have h47 := (f40.1 pq (nin2 (ob_ar h28 h29) (ob_ar h28 h32))).trans h28
          have h48 := (f40.1 q3 (nin2 (Ne.symm hD.1.2.1) (Ne.symm hD.2.1.1))).trans h30
          have h49 := (f40.1 q4 (nin2 (Ne.symm hD.1.2.2.1) (Ne.symm hD.2.1.2.1))).trans h31
          have h50 := (f40.1 q6 (nin2 (ar_ne h33 h29 (by decide)) (ar_ne h33 h32 (by decide)))).trans h33
          have hF51 := hF34.tr f40 (by simp)
          show pl _ _ _ (89, [(0, .ref r), (1, .int (nI k)), (2, .int (nI p)), (3, .int (nI (by1 f p)))], [], M36) _
          refine ps_st (S' := (90, [(0, .ref r), (1, .int (nI k)), (2, .int (nI p)), (3, .int (nI (by1 f p)))], [.int (nI (by1 f p))], M36)) rfl rfl rfl ?_
          refine pl_sw rfl (fun t_90 et_90 => ?_)
          have ht_90 : t_90 ∈ [128, 134, 140, 162] := mi_sw_sub et_90 (by decide)
          simp only [List.mem_cons, List.not_mem_nil, or_false] at ht_90
          rcases ht_90 with rfl | rfl | rfl | rfl
          · show pl _ _ _ (128, [(0, .ref r), (1, .int (nI k)), (2, .int (nI p)), (3, .int (nI (by1 f p)))], [], M36) _
            have m_90 := sw_nat (t := by1 f p) (by omega) et_90
            simp at m_90
            refine ps_st (S' := (129, [(0, .ref r), (1, .int (nI k)), (2, .int (nI p)), (3, .int (nI (by1 f p)))], [.ref r], M36)) rfl rfl rfl ?_
            refine ps_st (S' := (130, [(0, .ref r), (1, .int (nI k)), (2, .int (nI p)), (3, .int (nI (by1 f p)))], [.int (nI k), .ref r], M36)) rfl rfl rfl ?_
            refine pl_call (a := [.ref r, .int (nI k)]) (rest := []) rfl rfl rfl (dx_takesText h42 h43 h44 h45 h46 h47 h38 h48 h49 h50 (hn) (by omega) (hD) (hh) (hm) (hk3 (by omega)) (by omega)) (fun v52 M53 q54 => ?_)
            rcases q54 with q54 | q54
            · skip
              obtain ⟨l55, it'56, q130_s, q130_e, q130_c, rfl, h57, h58, h59, h60, h61, h62, f63⟩ := q54
              have h65 := (f63.1 b (nin6 (ob_ne h43 h42 (by decide)) (ob_ne h43 h45 (by decide)) (ob_ne h43 h47 (by decide)) (ob_ar h43 h48) (ob_ar h43 h49) (ob_ar h43 h50))).trans h43
              have h66 := (f63.1 da (nin6 (Ne.symm (ob_ar h42 h44)) (Ne.symm (ob_ar h45 h44)) (Ne.symm (ob_ar h47 h44)) (ar_ne h44 h48 (by decide)) (ar_ne h44 h49 (by decide)) (ar_ne h44 h50 (by decide)))).trans h44
              have h67 := (f63.1 c (nin6 (ob_ne h46 h42 (by decide)) (ob_ne h46 h45 (by decide)) (ob_ne h46 h47 (by decide)) (ob_ar h46 h48) (ob_ar h46 h49) (ob_ar h46 h50))).trans h46
              have h68 := (f63.1 q1 (nin6 (Ne.symm (ob_ar h42 h38)) (Ne.symm (ob_ar h45 h38)) (Ne.symm (ob_ar h47 h38)) hD.1.2.1 hD.1.2.2.1 (ar_ne h38 h50 (by decide)))).trans h38
              have h69 := (f63.1 q2 (nin6 (Ne.symm (ob_ar h42 h39)) (Ne.symm (ob_ar h45 h39)) (Ne.symm (ob_ar h47 h39)) hD.2.1.1 hD.2.1.2.1 (ar_ne h39 h50 (by decide)))).trans h39
              have hF70 := hF51.tr f63 (by simp)
              show pl _ _ _ (133, [(0, .ref r), (1, .int (nI k)), (2, .int (nI p)), (3, .int (nI (by1 f p)))], [.int 1], M53) _
              exact ps_ret rfl rfl (Or.inl ⟨_, l55, _, by
                  unfold s_entry
                  rw [if_neg (by omega), if_neg (fun h => h (by assumption)), if_neg (by omega)]
                  rw [if_pos (by omega), q130_s], by omega, by omega, rfl, h68, h69, h57, h58, h59, h60, h61, h62, hF70⟩)
            · skip
              obtain ⟨e71, q130_s, rfl, h72, f73⟩ := q54
              have h75 := (f73.1 b (nin6 (ob_ne h43 h42 (by decide)) (ob_ne h43 h45 (by decide)) (ob_ne h43 h47 (by decide)) (ob_ar h43 h48) (ob_ar h43 h49) (ob_ar h43 h50))).trans h43
              have h76 := (f73.1 da (nin6 (Ne.symm (ob_ar h42 h44)) (Ne.symm (ob_ar h45 h44)) (Ne.symm (ob_ar h47 h44)) (ar_ne h44 h48 (by decide)) (ar_ne h44 h49 (by decide)) (ar_ne h44 h50 (by decide)))).trans h44
              have h77 := (f73.1 c (nin6 (ob_ne h46 h42 (by decide)) (ob_ne h46 h45 (by decide)) (ob_ne h46 h47 (by decide)) (ob_ar h46 h48) (ob_ar h46 h49) (ob_ar h46 h50))).trans h46
              have h78 := (f73.1 q1 (nin6 (Ne.symm (ob_ar h42 h38)) (Ne.symm (ob_ar h45 h38)) (Ne.symm (ob_ar h47 h38)) hD.1.2.1 hD.1.2.2.1 (ar_ne h38 h50 (by decide)))).trans h38
              have h79 := (f73.1 q2 (nin6 (Ne.symm (ob_ar h42 h39)) (Ne.symm (ob_ar h45 h39)) (Ne.symm (ob_ar h47 h39)) hD.2.1.1 hD.2.1.2.1 (ar_ne h39 h50 (by decide)))).trans h39
              have hF80 := hF51.tr f73 (by simp)
              show pl _ _ _ (133, [(0, .ref r), (1, .int (nI k)), (2, .int (nI p)), (3, .int (nI (by1 f p)))], [.int 0], M53) _
              exact ps_ret rfl rfl (Or.inr (Or.inr (Or.inr ⟨_, by
                  unfold s_entry
                  rw [if_neg (by omega), if_neg (fun h => h (by assumption)), if_neg (by omega)]
                  rw [if_pos (by omega), q130_s], rfl, h72, hF80⟩)))
          · show pl _ _ _ (134, [(0, .ref r), (1, .int (nI k)), (2, .int (nI p)), (3, .int (nI (by1 f p)))], [], M36) _
            have m_90 := sw_nat (t := by1 f p) (by omega) et_90
            simp at m_90
            refine ps_st (S' := (135, [(0, .ref r), (1, .int (nI k)), (2, .int (nI p)), (3, .int (nI (by1 f p)))], [.ref r], M36)) rfl rfl rfl ?_
            refine ps_st (S' := (136, [(0, .ref r), (1, .int (nI k)), (2, .int (nI p)), (3, .int (nI (by1 f p)))], [.int 4, .ref r], M36)) rfl rfl rfl ?_
            refine pl_call (a := [.ref r, .int 4]) (rest := []) rfl rfl rfl (dx_takes4 h42 h43 h44 h45 (hn) (by omega)) (fun v81 M82 q83 => ?_)
            rcases q83 with q83 | q83
            · skip
              obtain ⟨q136_ok, rfl, h84, h85, f86⟩ := q83
              have h88 := (f86.1 b (nin2 (ob_ne h43 h42 (by decide)) (ob_ne h43 h45 (by decide)))).trans h43
              have h89 := (f86.1 da (nin2 (Ne.symm (ob_ar h42 h44)) (Ne.symm (ob_ar h45 h44)))).trans h44
              have h90 := (f86.1 c (nin2 (ob_ne h46 h42 (by decide)) (ob_ne h46 h45 (by decide)))).trans h46
              have h91 := (f86.1 pq (nin2 (ob_ne h47 h42 (by decide)) (ob_ne h47 h45 (by decide)))).trans h47
              have h92 := (f86.1 q1 (nin2 (Ne.symm (ob_ar h42 h38)) (Ne.symm (ob_ar h45 h38)))).trans h38
              have h93 := (f86.1 q3 (nin2 (Ne.symm (ob_ar h42 h48)) (Ne.symm (ob_ar h45 h48)))).trans h48
              have h94 := (f86.1 q4 (nin2 (Ne.symm (ob_ar h42 h49)) (Ne.symm (ob_ar h45 h49)))).trans h49
              have h95 := (f86.1 q2 (nin2 (Ne.symm (ob_ar h42 h39)) (Ne.symm (ob_ar h45 h39)))).trans h39
              have h96 := (f86.1 q6 (nin2 (Ne.symm (ob_ar h42 h50)) (Ne.symm (ob_ar h45 h50)))).trans h50
              have hF97 := hF51.tr f86 (by simp)
              show pl _ _ _ (139, [(0, .ref r), (1, .int (nI k)), (2, .int (nI p)), (3, .int (nI (by1 f p)))], [.int 1], M82) _
              exact ps_ret rfl rfl (Or.inr (Or.inl ⟨p + 5, _, by
                  unfold s_entry
                  rw [if_neg (by omega), if_neg (fun h => h (by assumption)), if_neg (by omega)]
                  repeat' split
                  all_goals first | rfl | (exfalso; omega), by omega, rfl, h92, h95, h84, h85, h91, h93, h94, h96, hF97⟩))
            · skip
              obtain ⟨q136_no, rfl, h98, h99, f100⟩ := q83
              have h102 := (f100.1 b (nin2 (ob_ne h43 h42 (by decide)) (ob_ne h43 h45 (by decide)))).trans h43
              have h103 := (f100.1 da (nin2 (Ne.symm (ob_ar h42 h44)) (Ne.symm (ob_ar h45 h44)))).trans h44
              have h104 := (f100.1 c (nin2 (ob_ne h46 h42 (by decide)) (ob_ne h46 h45 (by decide)))).trans h46
              have h105 := (f100.1 pq (nin2 (ob_ne h47 h42 (by decide)) (ob_ne h47 h45 (by decide)))).trans h47
              have h106 := (f100.1 q1 (nin2 (Ne.symm (ob_ar h42 h38)) (Ne.symm (ob_ar h45 h38)))).trans h38
              have h107 := (f100.1 q3 (nin2 (Ne.symm (ob_ar h42 h48)) (Ne.symm (ob_ar h45 h48)))).trans h48
              have h108 := (f100.1 q4 (nin2 (Ne.symm (ob_ar h42 h49)) (Ne.symm (ob_ar h45 h49)))).trans h49
              have h109 := (f100.1 q2 (nin2 (Ne.symm (ob_ar h42 h39)) (Ne.symm (ob_ar h45 h39)))).trans h39
              have h110 := (f100.1 q6 (nin2 (Ne.symm (ob_ar h42 h50)) (Ne.symm (ob_ar h45 h50)))).trans h50
              have hF111 := hF51.tr f100 (by simp)
              show pl _ _ _ (139, [(0, .ref r), (1, .int (nI k)), (2, .int (nI p)), (3, .int (nI (by1 f p)))], [.int 0], M82) _
              exact ps_ret rfl rfl (Or.inr (Or.inr (Or.inr ⟨(1, p + 1), by
                  unfold s_entry
                  rw [if_neg (by omega), if_neg (fun h => h (by assumption)), if_neg (by omega)]
                  repeat' split
                  all_goals first | rfl | (exfalso; omega), rfl, h99, hF111⟩)))
          · show pl _ _ _ (140, [(0, .ref r), (1, .int (nI k)), (2, .int (nI p)), (3, .int (nI (by1 f p)))], [], M36) _
            have m_90 := sw_nat (t := by1 f p) (by omega) et_90
            simp at m_90
            refine ps_st (S' := (141, [(0, .ref r), (1, .int (nI k)), (2, .int (nI p)), (3, .int (nI (by1 f p)))], [.ref r], M36)) rfl rfl rfl ?_
            refine ps_st (S' := (142, [(0, .ref r), (1, .int (nI k)), (2, .int (nI p)), (3, .int (nI (by1 f p)))], [.int 4, .ref r], M36)) rfl rfl rfl ?_
            refine pl_call (a := [.ref r, .int 4]) (rest := []) rfl rfl rfl (dx_takes4 h42 h43 h44 h45 (hn) (by omega)) (fun v112 M113 q114 => ?_)
            rcases q114 with q114 | q114
            · skip
              obtain ⟨q142_ok, rfl, h115, h116, f117⟩ := q114
              have h119 := (f117.1 b (nin2 (ob_ne h43 h42 (by decide)) (ob_ne h43 h45 (by decide)))).trans h43
              have h120 := (f117.1 da (nin2 (Ne.symm (ob_ar h42 h44)) (Ne.symm (ob_ar h45 h44)))).trans h44
              have h121 := (f117.1 c (nin2 (ob_ne h46 h42 (by decide)) (ob_ne h46 h45 (by decide)))).trans h46
              have h122 := (f117.1 pq (nin2 (ob_ne h47 h42 (by decide)) (ob_ne h47 h45 (by decide)))).trans h47
              have h123 := (f117.1 q1 (nin2 (Ne.symm (ob_ar h42 h38)) (Ne.symm (ob_ar h45 h38)))).trans h38
              have h124 := (f117.1 q3 (nin2 (Ne.symm (ob_ar h42 h48)) (Ne.symm (ob_ar h45 h48)))).trans h48
              have h125 := (f117.1 q4 (nin2 (Ne.symm (ob_ar h42 h49)) (Ne.symm (ob_ar h45 h49)))).trans h49
              have h126 := (f117.1 q2 (nin2 (Ne.symm (ob_ar h42 h39)) (Ne.symm (ob_ar h45 h39)))).trans h39
              have h127 := (f117.1 q6 (nin2 (Ne.symm (ob_ar h42 h50)) (Ne.symm (ob_ar h45 h50)))).trans h50
              have hF128 := hF51.tr f117 (by simp)
              show pl _ _ _ (145, [(0, .ref r), (1, .int (nI k)), (2, .int (nI p)), (3, .int (nI (by1 f p)))], [.int 1], M113) _
              refine ps_if (S1 := (160, [], [], M113)) (S2 := (148, [(0, .ref r), (1, .int (nI k)), (2, .int (nI p)), (3, .int (nI (by1 f p)))], [], M113)) rfl rfl rfl (fun c_145 => ?_) (fun c_145 => ?_)
              · exact absurd (of_decide_eq_true c_145) (by decide)
              refine ps_st (S' := (149, [(0, .ref r), (1, .int (nI k)), (2, .int (nI p)), (3, .int (nI (by1 f p)))], [.ref r], M113)) rfl rfl rfl ?_
              refine ps_st (S' := (150, [(0, .ref r), (1, .int (nI k)), (2, .int (nI p)), (3, .int (nI (by1 f p)))], [.int 4, .ref r], M113)) rfl rfl rfl ?_
              refine pl_call (a := [.ref r, .int 4]) (rest := []) rfl rfl rfl (dx_takes4 h115 h119 h120 h116 (hn) (by omega)) (fun v129 M130 q131 => ?_)
              rcases q131 with q131 | q131
              · skip
                obtain ⟨q150_ok, rfl, h132, h133, f134⟩ := q131
                have h136 := (f134.1 b (nin2 (ob_ne h119 h115 (by decide)) (ob_ne h119 h116 (by decide)))).trans h119
                have h137 := (f134.1 da (nin2 (Ne.symm (ob_ar h115 h120)) (Ne.symm (ob_ar h116 h120)))).trans h120
                have h138 := (f134.1 c (nin2 (ob_ne h121 h115 (by decide)) (ob_ne h121 h116 (by decide)))).trans h121
                have h139 := (f134.1 pq (nin2 (ob_ne h122 h115 (by decide)) (ob_ne h122 h116 (by decide)))).trans h122
                have h140 := (f134.1 q1 (nin2 (Ne.symm (ob_ar h115 h123)) (Ne.symm (ob_ar h116 h123)))).trans h123
                have h141 := (f134.1 q3 (nin2 (Ne.symm (ob_ar h115 h124)) (Ne.symm (ob_ar h116 h124)))).trans h124
                have h142 := (f134.1 q4 (nin2 (Ne.symm (ob_ar h115 h125)) (Ne.symm (ob_ar h116 h125)))).trans h125
                have h143 := (f134.1 q2 (nin2 (Ne.symm (ob_ar h115 h126)) (Ne.symm (ob_ar h116 h126)))).trans h126
                have h144 := (f134.1 q6 (nin2 (Ne.symm (ob_ar h115 h127)) (Ne.symm (ob_ar h116 h127)))).trans h127
                have hF145 := hF128.tr f134 (by simp)
                show pl _ _ _ (153, [(0, .ref r), (1, .int (nI k)), (2, .int (nI p)), (3, .int (nI (by1 f p)))], [.int 1], M130) _
                refine ps_if (S1 := (160, [], [], M130)) (S2 := (156, [(0, .ref r), (1, .int (nI k)), (2, .int (nI p)), (3, .int (nI (by1 f p)))], [], M130)) rfl rfl rfl (fun c_153 => ?_) (fun c_153 => ?_)
                · exact absurd (of_decide_eq_true c_153) (by decide)
                refine ps_st (S' := (157, [(0, .ref r), (1, .int (nI k)), (2, .int (nI p)), (3, .int (nI (by1 f p)))], [.int 1], M130)) rfl rfl rfl ?_
                refine ps_st (S' := (161, [], [.int 1], M130)) rfl rfl rfl ?_
                exact ps_ret rfl rfl (Or.inr (Or.inl ⟨p + 9, _, by
                    unfold s_entry
                    rw [if_neg (by omega), if_neg (fun h => h (by assumption)), if_neg (by omega)]
                    repeat' split
                    all_goals first | rfl | (exfalso; omega), by omega, rfl, h140, h143, h132, h133, h139, h141, h142, h144, hF145⟩))
              · skip
                obtain ⟨q150_no, rfl, h146, h147, f148⟩ := q131
                have h150 := (f148.1 b (nin2 (ob_ne h119 h115 (by decide)) (ob_ne h119 h116 (by decide)))).trans h119
                have h151 := (f148.1 da (nin2 (Ne.symm (ob_ar h115 h120)) (Ne.symm (ob_ar h116 h120)))).trans h120
                have h152 := (f148.1 c (nin2 (ob_ne h121 h115 (by decide)) (ob_ne h121 h116 (by decide)))).trans h121
                have h153 := (f148.1 pq (nin2 (ob_ne h122 h115 (by decide)) (ob_ne h122 h116 (by decide)))).trans h122
                have h154 := (f148.1 q1 (nin2 (Ne.symm (ob_ar h115 h123)) (Ne.symm (ob_ar h116 h123)))).trans h123
                have h155 := (f148.1 q3 (nin2 (Ne.symm (ob_ar h115 h124)) (Ne.symm (ob_ar h116 h124)))).trans h124
                have h156 := (f148.1 q4 (nin2 (Ne.symm (ob_ar h115 h125)) (Ne.symm (ob_ar h116 h125)))).trans h125
                have h157 := (f148.1 q2 (nin2 (Ne.symm (ob_ar h115 h126)) (Ne.symm (ob_ar h116 h126)))).trans h126
                have h158 := (f148.1 q6 (nin2 (Ne.symm (ob_ar h115 h127)) (Ne.symm (ob_ar h116 h127)))).trans h127
                have hF159 := hF128.tr f148 (by simp)
                show pl _ _ _ (153, [(0, .ref r), (1, .int (nI k)), (2, .int (nI p)), (3, .int (nI (by1 f p)))], [.int 0], M130) _
                refine ps_if (S1 := (160, [], [], M130)) (S2 := (156, [(0, .ref r), (1, .int (nI k)), (2, .int (nI p)), (3, .int (nI (by1 f p)))], [], M130)) rfl rfl rfl (fun c_153 => ?_) (fun c_153 => ?_)
                rotate_left
                · exact absurd (by decide) (of_decide_eq_false c_153)
                refine ps_st (S' := (161, [], [.int 0], M130)) rfl rfl rfl ?_
                exact ps_ret rfl rfl (Or.inr (Or.inr (Or.inr ⟨(1, p + 5), by
                    unfold s_entry
                    rw [if_neg (by omega), if_neg (fun h => h (by assumption)), if_neg (by omega)]
                    repeat' split
                    all_goals first | rfl | (exfalso; omega), rfl, h147, hF159⟩)))
            · skip
              obtain ⟨q142_no, rfl, h160, h161, f162⟩ := q114
              have h164 := (f162.1 b (nin2 (ob_ne h43 h42 (by decide)) (ob_ne h43 h45 (by decide)))).trans h43
              have h165 := (f162.1 da (nin2 (Ne.symm (ob_ar h42 h44)) (Ne.symm (ob_ar h45 h44)))).trans h44
              have h166 := (f162.1 c (nin2 (ob_ne h46 h42 (by decide)) (ob_ne h46 h45 (by decide)))).trans h46
              have h167 := (f162.1 pq (nin2 (ob_ne h47 h42 (by decide)) (ob_ne h47 h45 (by decide)))).trans h47
              have h168 := (f162.1 q1 (nin2 (Ne.symm (ob_ar h42 h38)) (Ne.symm (ob_ar h45 h38)))).trans h38
              have h169 := (f162.1 q3 (nin2 (Ne.symm (ob_ar h42 h48)) (Ne.symm (ob_ar h45 h48)))).trans h48
              have h170 := (f162.1 q4 (nin2 (Ne.symm (ob_ar h42 h49)) (Ne.symm (ob_ar h45 h49)))).trans h49
              have h171 := (f162.1 q2 (nin2 (Ne.symm (ob_ar h42 h39)) (Ne.symm (ob_ar h45 h39)))).trans h39
              have h172 := (f162.1 q6 (nin2 (Ne.symm (ob_ar h42 h50)) (Ne.symm (ob_ar h45 h50)))).trans h50
              have hF173 := hF51.tr f162 (by simp)
              show pl _ _ _ (145, [(0, .ref r), (1, .int (nI k)), (2, .int (nI p)), (3, .int (nI (by1 f p)))], [.int 0], M113) _
              refine ps_if (S1 := (160, [], [], M113)) (S2 := (148, [(0, .ref r), (1, .int (nI k)), (2, .int (nI p)), (3, .int (nI (by1 f p)))], [], M113)) rfl rfl rfl (fun c_145 => ?_) (fun c_145 => ?_)
              rotate_left
              · exact absurd (by decide) (of_decide_eq_false c_145)
              refine ps_st (S' := (161, [], [.int 0], M113)) rfl rfl rfl ?_
              exact ps_ret rfl rfl (Or.inr (Or.inr (Or.inr ⟨(1, p + 1), by
                  unfold s_entry
                  rw [if_neg (by omega), if_neg (fun h => h (by assumption)), if_neg (by omega)]
                  repeat' split
                  all_goals first | rfl | (exfalso; omega), rfl, h161, hF173⟩)))
          · show pl _ _ _ (162, [(0, .ref r), (1, .int (nI k)), (2, .int (nI p)), (3, .int (nI (by1 f p)))], [], M36) _
            have m_90 := sw_nat (t := by1 f p) (by omega) et_90
            simp at m_90
            refine ps_st (S' := (163, [(0, .ref r), (1, .int (nI k)), (2, .int (nI p)), (3, .int (nI (by1 f p)))], [.ref r], M36)) rfl rfl rfl ?_
            refine ps_st (S' := (164, [(0, .ref r), (1, .int (nI k)), (2, .int (nI p)), (3, .int (nI (by1 f p)))], [.int (nI k), .ref r], M36)) rfl rfl rfl ?_
            refine ps_st (S' := (165, [(0, .ref r), (1, .int (nI k)), (2, .int (nI p)), (3, .int (nI (by1 f p)))], [.int (nI (by1 f p)), .int (nI k), .ref r], M36)) rfl rfl rfl ?_
            refine pl_call (a := [.ref r, .int (nI k), .int (nI (by1 f p))]) (rest := []) rfl rfl rfl (dx_takesIndexes h42 h43 h44 h45 h46 h47 h38 h48 h49 (hn) (by omega) (hD) (hh) (hk3 (by omega)) (by1_lt _ _)) (fun v174 M175 q176 => ?_)
            rcases q176 with q176 | q176
            · skip
              obtain ⟨p'177, x178, y179, it'180, q165_s, rfl, h181, h182, h183, h184, f185⟩ := q176
              have h187 := (f185.1 b (nin4 (ob_ne h43 h42 (by decide)) (ob_ne h43 h45 (by decide)) (ob_ar h43 h48) (ob_ar h43 h49))).trans h43
              have h188 := (f185.1 da (nin4 (Ne.symm (ob_ar h42 h44)) (Ne.symm (ob_ar h45 h44)) (ar_ne h44 h48 (by decide)) (ar_ne h44 h49 (by decide)))).trans h44
              have h189 := (f185.1 c (nin4 (ob_ne h46 h42 (by decide)) (ob_ne h46 h45 (by decide)) (ob_ar h46 h48) (ob_ar h46 h49))).trans h46
              have h190 := (f185.1 pq (nin4 (ob_ne h47 h42 (by decide)) (ob_ne h47 h45 (by decide)) (ob_ar h47 h48) (ob_ar h47 h49))).trans h47
              have h191 := (f185.1 q1 (nin4 (Ne.symm (ob_ar h42 h38)) (Ne.symm (ob_ar h45 h38)) hD.1.2.1 hD.1.2.2.1)).trans h38
              have h192 := (f185.1 q2 (nin4 (Ne.symm (ob_ar h42 h39)) (Ne.symm (ob_ar h45 h39)) hD.2.1.1 hD.2.1.2.1)).trans h39
              have h193 := (f185.1 q6 (nin4 (Ne.symm (ob_ar h42 h50)) (Ne.symm (ob_ar h45 h50)) (ar_ne h50 h48 (by decide)) (ar_ne h50 h49 (by decide)))).trans h50
              have hF194 := hF51.tr f185 (by simp)
              show pl _ _ _ (168, [(0, .ref r), (1, .int (nI k)), (2, .int (nI p)), (3, .int (nI (by1 f p)))], [.int 1], M175) _
              exact ps_ret rfl rfl (Or.inr (Or.inr (Or.inl ⟨_, _, _, _, by
                  unfold s_entry
                  rw [if_neg (by omega), if_neg (fun h => h (by assumption)), if_neg (by omega)]
                  rw [if_neg (by omega), if_neg (by omega), if_neg (by omega), q165_s], s_ix_le q165_s, rfl, h191, h192, h181, h182, h190, h183, h184, h193, hF194⟩)))
            · skip
              obtain ⟨e195, q165_s, rfl, h196, f197⟩ := q176
              have h199 := (f197.1 b (nin4 (ob_ne h43 h42 (by decide)) (ob_ne h43 h45 (by decide)) (ob_ar h43 h48) (ob_ar h43 h49))).trans h43
              have h200 := (f197.1 da (nin4 (Ne.symm (ob_ar h42 h44)) (Ne.symm (ob_ar h45 h44)) (ar_ne h44 h48 (by decide)) (ar_ne h44 h49 (by decide)))).trans h44
              have h201 := (f197.1 c (nin4 (ob_ne h46 h42 (by decide)) (ob_ne h46 h45 (by decide)) (ob_ar h46 h48) (ob_ar h46 h49))).trans h46
              have h202 := (f197.1 pq (nin4 (ob_ne h47 h42 (by decide)) (ob_ne h47 h45 (by decide)) (ob_ar h47 h48) (ob_ar h47 h49))).trans h47
              have h203 := (f197.1 q1 (nin4 (Ne.symm (ob_ar h42 h38)) (Ne.symm (ob_ar h45 h38)) hD.1.2.1 hD.1.2.2.1)).trans h38
              have h204 := (f197.1 q2 (nin4 (Ne.symm (ob_ar h42 h39)) (Ne.symm (ob_ar h45 h39)) hD.2.1.1 hD.2.1.2.1)).trans h39
              have h205 := (f197.1 q6 (nin4 (Ne.symm (ob_ar h42 h50)) (Ne.symm (ob_ar h45 h50)) (ar_ne h50 h48 (by decide)) (ar_ne h50 h49 (by decide)))).trans h50
              have hF206 := hF51.tr f197 (by simp)
              show pl _ _ _ (168, [(0, .ref r), (1, .int (nI k)), (2, .int (nI p)), (3, .int (nI (by1 f p)))], [.int 0], M175) _
              exact ps_ret rfl rfl (Or.inr (Or.inr (Or.inr ⟨_, by
                  unfold s_entry
                  rw [if_neg (by omega), if_neg (fun h => h (by assumption)), if_neg (by omega)]
                  rw [if_neg (by omega), if_neg (by omega), if_neg (by omega), q165_s], rfl, h196, hF206⟩)))
        · have c_62 : ¬ ((nI (k + 1)) < (nI N)) := of_decide_eq_false c_62
          have n_62 : ¬ (k + 1 < N) := fun h9 => c_62 ((lt_nI (p := k + 1) (n := N) (by omega) (by omega)).mpr h9)
          refine ps_st (S' := (66, [(0, .ref r), (1, .int (nI k)), (2, .int (nI p)), (3, .int (nI (by1 f p)))], [.ref r], M19)) rfl rfl rfl ?_
          refine ps_get (S' := (69, [(0, .ref r), (1, .int (nI k)), (2, .int (nI p)), (3, .int (nI (by1 f p)))], [.ref vd], M19)) rfl h23 rfl rfl ?_
          refine ps_st (S' := (71, [(0, .ref r), (1, .int (nI k)), (2, .int (nI p)), (3, .int (nI (by1 f p)))], [.int 7, .ref vd], M19)) rfl rfl rfl ?_
          refine ps_st (S' := (72, [(0, .ref r), (1, .int (nI k)), (2, .int (nI p)), (3, .int (nI (by1 f p)))], [.int (nI p), .int 7, .ref vd], M19)) rfl rfl rfl ?_
          refine pl_call (a := [.ref vd, .int 7, .int (nI p)]) (rest := []) rfl rfl rfl (dx_wrong h26) (fun v207 M208 q209 => ?_)
          obtain ⟨rfl, h210, f211⟩ := q209
          have h213 := (f211.1 r (nin1 (ob_ne h23 h26 (by decide)))).trans h23
          have h214 := (f211.1 b (nin1 (ob_ne h24 h26 (by decide)))).trans h24
          have h215 := (f211.1 da (nin1 (Ne.symm (ob_ar h26 h25)))).trans h25
          have h216 := (f211.1 c (nin1 (ob_ne h27 h26 (by decide)))).trans h27
          have h217 := (f211.1 pq (nin1 (ob_ne h28 h26 (by decide)))).trans h28
          have h218 := (f211.1 q1 (nin1 (Ne.symm (ob_ar h26 h29)))).trans h29
          have h219 := (f211.1 q3 (nin1 (Ne.symm (ob_ar h26 h30)))).trans h30
          have h220 := (f211.1 q4 (nin1 (Ne.symm (ob_ar h26 h31)))).trans h31
          have h221 := (f211.1 q2 (nin1 (Ne.symm (ob_ar h26 h32)))).trans h32
          have h222 := (f211.1 q6 (nin1 (Ne.symm (ob_ar h26 h33)))).trans h33
          have hF223 := hF34.tr f211 (by simp)
          show pl _ _ _ (75, [(0, .ref r), (1, .int (nI k)), (2, .int (nI p)), (3, .int (nI (by1 f p)))], [.int 0], M208) _
          exact ps_ret rfl rfl (Or.inr (Or.inr (Or.inr ⟨(7, p), by
              unfold s_entry
              rw [if_neg (by omega), if_neg (fun h => h (by assumption)), if_pos (by omega)], rfl, h210, hF223⟩)))
      · have c_40 : ¬ ((nI (by1 f p)) = 5) := of_decide_eq_false c_40
        have n_40 : ¬ (by1 f p = 5) := fun h9 => c_40 ((eq_nI (p := by1 f p) (n := 5) (Nat.lt_trans (by1_lt _ _) (by decide)) (by decide)).mpr h9)
        refine ps_st (S' := (44, [(3, .int (nI (by1 f p))), (2, .int (nI p)), (0, .ref r), (1, .int (nI k))], [.int (nI (by1 f p))], M19)) rfl rfl rfl ?_
        refine ps_st (S' := (46, [(3, .int (nI (by1 f p))), (2, .int (nI p)), (0, .ref r), (1, .int (nI k))], [.int 6, .int (nI (by1 f p))], M19)) rfl rfl rfl ?_
        refine ps_if2 (S1 := (76, [(0, .ref r), (1, .int (nI k)), (2, .int (nI p)), (3, .int (nI (by1 f p)))], [], M19)) (S2 := (49, [(0, .ref r), (1, .int (nI k)), (2, .int (nI p)), (3, .int (nI (by1 f p)))], [], M19)) rfl rfl rfl (fun c_46 => ?_) (fun c_46 => ?_)
        · have c_46 : ¬ (nI (by1 f p)) = 6 := of_decide_eq_true c_46
          have n_46 : ¬ (by1 f p = 6) := fun h9 => c_46 ((eq_nI (p := by1 f p) (n := 6) (Nat.lt_trans (by1_lt _ _) (by decide)) (by decide)).mpr h9)
          refine ps_st (S' := (77, [(0, .ref r), (1, .int (nI k)), (2, .int (nI p)), (3, .int (nI (by1 f p)))], [.ref r], M19)) rfl rfl rfl ?_
          refine ps_get (S' := (80, [(0, .ref r), (1, .int (nI k)), (2, .int (nI p)), (3, .int (nI (by1 f p)))], [.ref c], M19)) rfl h23 rfl rfl ?_
          refine ps_get (S' := (83, [(0, .ref r), (1, .int (nI k)), (2, .int (nI p)), (3, .int (nI (by1 f p)))], [.ref pq], M19)) rfl h27 rfl rfl ?_
          refine ps_st (S' := (84, [(0, .ref r), (1, .int (nI k)), (2, .int (nI p)), (3, .int (nI (by1 f p)))], [.int (nI k), .ref pq], M19)) rfl rfl rfl ?_
          refine ps_st (S' := (85, [(0, .ref r), (1, .int (nI k)), (2, .int (nI p)), (3, .int (nI (by1 f p)))], [.int (nI (by1 f p)), .int (nI k), .ref pq], M19)) rfl rfl rfl ?_
          refine ps_st (S' := (86, [(0, .ref r), (1, .int (nI k)), (2, .int (nI p)), (3, .int (nI (by1 f p)))], [.int (nI p), .int (nI (by1 f p)), .int (nI k), .ref pq], M19)) rfl rfl rfl ?_
          refine pl_call (a := [.ref pq, .int (nI k), .int (nI (by1 f p)), .int (nI p)]) (rest := []) rfl rfl rfl (dx_setTag h28 h29 h32 (hD) (hh) (hk3 (by omega))) (fun v224 M225 q226 => ?_)
          obtain ⟨rfl, h227, h228, f229⟩ := q226
          have h231 := (f229.1 r (nin2 (ob_ar h23 h29) (ob_ar h23 h32))).trans h23
          have h232 := (f229.1 b (nin2 (ob_ar h24 h29) (ob_ar h24 h32))).trans h24
          have h233 := (f229.1 da (nin2 (ar_ne h25 h29 (by decide)) (ar_ne h25 h32 (by decide)))).trans h25
          have h234 := (f229.1 vd (nin2 (ob_ar h26 h29) (ob_ar h26 h32))).trans h26
          have h235 := (f229.1 c (nin2 (ob_ar h27 h29) (ob_ar h27 h32))).trans h27
          have h236 := (f229.1 pq (nin2 (ob_ar h28 h29) (ob_ar h28 h32))).trans h28
          have h237 := (f229.1 q3 (nin2 (Ne.symm hD.1.2.1) (Ne.symm hD.2.1.1))).trans h30
          have h238 := (f229.1 q4 (nin2 (Ne.symm hD.1.2.2.1) (Ne.symm hD.2.1.2.1))).trans h31
          have h239 := (f229.1 q6 (nin2 (ar_ne h33 h29 (by decide)) (ar_ne h33 h32 (by decide)))).trans h33
          have hF240 := hF34.tr f229 (by simp)
          show pl _ _ _ (89, [(0, .ref r), (1, .int (nI k)), (2, .int (nI p)), (3, .int (nI (by1 f p)))], [], M225) _
          refine ps_st (S' := (90, [(0, .ref r), (1, .int (nI k)), (2, .int (nI p)), (3, .int (nI (by1 f p)))], [.int (nI (by1 f p))], M225)) rfl rfl rfl ?_
          refine pl_sw rfl (fun t_90 et_90 => ?_)
          have ht_90 : t_90 ∈ [128, 134, 140, 162] := mi_sw_sub et_90 (by decide)
          simp only [List.mem_cons, List.not_mem_nil, or_false] at ht_90
          rcases ht_90 with rfl | rfl | rfl | rfl
          · show pl _ _ _ (128, [(0, .ref r), (1, .int (nI k)), (2, .int (nI p)), (3, .int (nI (by1 f p)))], [], M225) _
            have m_90 := sw_nat (t := by1 f p) (by omega) et_90
            simp at m_90
            refine ps_st (S' := (129, [(0, .ref r), (1, .int (nI k)), (2, .int (nI p)), (3, .int (nI (by1 f p)))], [.ref r], M225)) rfl rfl rfl ?_
            refine ps_st (S' := (130, [(0, .ref r), (1, .int (nI k)), (2, .int (nI p)), (3, .int (nI (by1 f p)))], [.int (nI k), .ref r], M225)) rfl rfl rfl ?_
            refine pl_call (a := [.ref r, .int (nI k)]) (rest := []) rfl rfl rfl (dx_takesText h231 h232 h233 h234 h235 h236 h227 h237 h238 h239 (hn) (by omega) (hD) (hh) (hm) (hk3 (by omega)) (by omega)) (fun v241 M242 q243 => ?_)
            rcases q243 with q243 | q243
            · skip
              obtain ⟨l244, it'245, q130_s, q130_e, q130_c, rfl, h246, h247, h248, h249, h250, h251, f252⟩ := q243
              have h254 := (f252.1 b (nin6 (ob_ne h232 h231 (by decide)) (ob_ne h232 h234 (by decide)) (ob_ne h232 h236 (by decide)) (ob_ar h232 h237) (ob_ar h232 h238) (ob_ar h232 h239))).trans h232
              have h255 := (f252.1 da (nin6 (Ne.symm (ob_ar h231 h233)) (Ne.symm (ob_ar h234 h233)) (Ne.symm (ob_ar h236 h233)) (ar_ne h233 h237 (by decide)) (ar_ne h233 h238 (by decide)) (ar_ne h233 h239 (by decide)))).trans h233
              have h256 := (f252.1 c (nin6 (ob_ne h235 h231 (by decide)) (ob_ne h235 h234 (by decide)) (ob_ne h235 h236 (by decide)) (ob_ar h235 h237) (ob_ar h235 h238) (ob_ar h235 h239))).trans h235
              have h257 := (f252.1 q1 (nin6 (Ne.symm (ob_ar h231 h227)) (Ne.symm (ob_ar h234 h227)) (Ne.symm (ob_ar h236 h227)) hD.1.2.1 hD.1.2.2.1 (ar_ne h227 h239 (by decide)))).trans h227
              have h258 := (f252.1 q2 (nin6 (Ne.symm (ob_ar h231 h228)) (Ne.symm (ob_ar h234 h228)) (Ne.symm (ob_ar h236 h228)) hD.2.1.1 hD.2.1.2.1 (ar_ne h228 h239 (by decide)))).trans h228
              have hF259 := hF240.tr f252 (by simp)
              show pl _ _ _ (133, [(0, .ref r), (1, .int (nI k)), (2, .int (nI p)), (3, .int (nI (by1 f p)))], [.int 1], M242) _
              exact ps_ret rfl rfl (Or.inl ⟨_, l244, _, by
                  unfold s_entry
                  rw [if_neg (by omega), if_neg (fun h => h (by assumption)), if_neg (by omega)]
                  rw [if_pos (by omega), q130_s], by omega, by omega, rfl, h257, h258, h246, h247, h248, h249, h250, h251, hF259⟩)
            · skip
              obtain ⟨e260, q130_s, rfl, h261, f262⟩ := q243
              have h264 := (f262.1 b (nin6 (ob_ne h232 h231 (by decide)) (ob_ne h232 h234 (by decide)) (ob_ne h232 h236 (by decide)) (ob_ar h232 h237) (ob_ar h232 h238) (ob_ar h232 h239))).trans h232
              have h265 := (f262.1 da (nin6 (Ne.symm (ob_ar h231 h233)) (Ne.symm (ob_ar h234 h233)) (Ne.symm (ob_ar h236 h233)) (ar_ne h233 h237 (by decide)) (ar_ne h233 h238 (by decide)) (ar_ne h233 h239 (by decide)))).trans h233
              have h266 := (f262.1 c (nin6 (ob_ne h235 h231 (by decide)) (ob_ne h235 h234 (by decide)) (ob_ne h235 h236 (by decide)) (ob_ar h235 h237) (ob_ar h235 h238) (ob_ar h235 h239))).trans h235
              have h267 := (f262.1 q1 (nin6 (Ne.symm (ob_ar h231 h227)) (Ne.symm (ob_ar h234 h227)) (Ne.symm (ob_ar h236 h227)) hD.1.2.1 hD.1.2.2.1 (ar_ne h227 h239 (by decide)))).trans h227
              have h268 := (f262.1 q2 (nin6 (Ne.symm (ob_ar h231 h228)) (Ne.symm (ob_ar h234 h228)) (Ne.symm (ob_ar h236 h228)) hD.2.1.1 hD.2.1.2.1 (ar_ne h228 h239 (by decide)))).trans h228
              have hF269 := hF240.tr f262 (by simp)
              show pl _ _ _ (133, [(0, .ref r), (1, .int (nI k)), (2, .int (nI p)), (3, .int (nI (by1 f p)))], [.int 0], M242) _
              exact ps_ret rfl rfl (Or.inr (Or.inr (Or.inr ⟨_, by
                  unfold s_entry
                  rw [if_neg (by omega), if_neg (fun h => h (by assumption)), if_neg (by omega)]
                  rw [if_pos (by omega), q130_s], rfl, h261, hF269⟩)))
          · show pl _ _ _ (134, [(0, .ref r), (1, .int (nI k)), (2, .int (nI p)), (3, .int (nI (by1 f p)))], [], M225) _
            have m_90 := sw_nat (t := by1 f p) (by omega) et_90
            simp at m_90
            refine ps_st (S' := (135, [(0, .ref r), (1, .int (nI k)), (2, .int (nI p)), (3, .int (nI (by1 f p)))], [.ref r], M225)) rfl rfl rfl ?_
            refine ps_st (S' := (136, [(0, .ref r), (1, .int (nI k)), (2, .int (nI p)), (3, .int (nI (by1 f p)))], [.int 4, .ref r], M225)) rfl rfl rfl ?_
            refine pl_call (a := [.ref r, .int 4]) (rest := []) rfl rfl rfl (dx_takes4 h231 h232 h233 h234 (hn) (by omega)) (fun v270 M271 q272 => ?_)
            rcases q272 with q272 | q272
            · skip
              obtain ⟨q136_ok, rfl, h273, h274, f275⟩ := q272
              have h277 := (f275.1 b (nin2 (ob_ne h232 h231 (by decide)) (ob_ne h232 h234 (by decide)))).trans h232
              have h278 := (f275.1 da (nin2 (Ne.symm (ob_ar h231 h233)) (Ne.symm (ob_ar h234 h233)))).trans h233
              have h279 := (f275.1 c (nin2 (ob_ne h235 h231 (by decide)) (ob_ne h235 h234 (by decide)))).trans h235
              have h280 := (f275.1 pq (nin2 (ob_ne h236 h231 (by decide)) (ob_ne h236 h234 (by decide)))).trans h236
              have h281 := (f275.1 q1 (nin2 (Ne.symm (ob_ar h231 h227)) (Ne.symm (ob_ar h234 h227)))).trans h227
              have h282 := (f275.1 q3 (nin2 (Ne.symm (ob_ar h231 h237)) (Ne.symm (ob_ar h234 h237)))).trans h237
              have h283 := (f275.1 q4 (nin2 (Ne.symm (ob_ar h231 h238)) (Ne.symm (ob_ar h234 h238)))).trans h238
              have h284 := (f275.1 q2 (nin2 (Ne.symm (ob_ar h231 h228)) (Ne.symm (ob_ar h234 h228)))).trans h228
              have h285 := (f275.1 q6 (nin2 (Ne.symm (ob_ar h231 h239)) (Ne.symm (ob_ar h234 h239)))).trans h239
              have hF286 := hF240.tr f275 (by simp)
              show pl _ _ _ (139, [(0, .ref r), (1, .int (nI k)), (2, .int (nI p)), (3, .int (nI (by1 f p)))], [.int 1], M271) _
              exact ps_ret rfl rfl (Or.inr (Or.inl ⟨p + 5, _, by
                  unfold s_entry
                  rw [if_neg (by omega), if_neg (fun h => h (by assumption)), if_neg (by omega)]
                  repeat' split
                  all_goals first | rfl | (exfalso; omega), by omega, rfl, h281, h284, h273, h274, h280, h282, h283, h285, hF286⟩))
            · skip
              obtain ⟨q136_no, rfl, h287, h288, f289⟩ := q272
              have h291 := (f289.1 b (nin2 (ob_ne h232 h231 (by decide)) (ob_ne h232 h234 (by decide)))).trans h232
              have h292 := (f289.1 da (nin2 (Ne.symm (ob_ar h231 h233)) (Ne.symm (ob_ar h234 h233)))).trans h233
              have h293 := (f289.1 c (nin2 (ob_ne h235 h231 (by decide)) (ob_ne h235 h234 (by decide)))).trans h235
              have h294 := (f289.1 pq (nin2 (ob_ne h236 h231 (by decide)) (ob_ne h236 h234 (by decide)))).trans h236
              have h295 := (f289.1 q1 (nin2 (Ne.symm (ob_ar h231 h227)) (Ne.symm (ob_ar h234 h227)))).trans h227
              have h296 := (f289.1 q3 (nin2 (Ne.symm (ob_ar h231 h237)) (Ne.symm (ob_ar h234 h237)))).trans h237
              have h297 := (f289.1 q4 (nin2 (Ne.symm (ob_ar h231 h238)) (Ne.symm (ob_ar h234 h238)))).trans h238
              have h298 := (f289.1 q2 (nin2 (Ne.symm (ob_ar h231 h228)) (Ne.symm (ob_ar h234 h228)))).trans h228
              have h299 := (f289.1 q6 (nin2 (Ne.symm (ob_ar h231 h239)) (Ne.symm (ob_ar h234 h239)))).trans h239
              have hF300 := hF240.tr f289 (by simp)
              show pl _ _ _ (139, [(0, .ref r), (1, .int (nI k)), (2, .int (nI p)), (3, .int (nI (by1 f p)))], [.int 0], M271) _
              exact ps_ret rfl rfl (Or.inr (Or.inr (Or.inr ⟨(1, p + 1), by
                  unfold s_entry
                  rw [if_neg (by omega), if_neg (fun h => h (by assumption)), if_neg (by omega)]
                  repeat' split
                  all_goals first | rfl | (exfalso; omega), rfl, h288, hF300⟩)))
          · show pl _ _ _ (140, [(0, .ref r), (1, .int (nI k)), (2, .int (nI p)), (3, .int (nI (by1 f p)))], [], M225) _
            have m_90 := sw_nat (t := by1 f p) (by omega) et_90
            simp at m_90
            refine ps_st (S' := (141, [(0, .ref r), (1, .int (nI k)), (2, .int (nI p)), (3, .int (nI (by1 f p)))], [.ref r], M225)) rfl rfl rfl ?_
            refine ps_st (S' := (142, [(0, .ref r), (1, .int (nI k)), (2, .int (nI p)), (3, .int (nI (by1 f p)))], [.int 4, .ref r], M225)) rfl rfl rfl ?_
            refine pl_call (a := [.ref r, .int 4]) (rest := []) rfl rfl rfl (dx_takes4 h231 h232 h233 h234 (hn) (by omega)) (fun v301 M302 q303 => ?_)
            rcases q303 with q303 | q303
            · skip
              obtain ⟨q142_ok, rfl, h304, h305, f306⟩ := q303
              have h308 := (f306.1 b (nin2 (ob_ne h232 h231 (by decide)) (ob_ne h232 h234 (by decide)))).trans h232
              have h309 := (f306.1 da (nin2 (Ne.symm (ob_ar h231 h233)) (Ne.symm (ob_ar h234 h233)))).trans h233
              have h310 := (f306.1 c (nin2 (ob_ne h235 h231 (by decide)) (ob_ne h235 h234 (by decide)))).trans h235
              have h311 := (f306.1 pq (nin2 (ob_ne h236 h231 (by decide)) (ob_ne h236 h234 (by decide)))).trans h236
              have h312 := (f306.1 q1 (nin2 (Ne.symm (ob_ar h231 h227)) (Ne.symm (ob_ar h234 h227)))).trans h227
              have h313 := (f306.1 q3 (nin2 (Ne.symm (ob_ar h231 h237)) (Ne.symm (ob_ar h234 h237)))).trans h237
              have h314 := (f306.1 q4 (nin2 (Ne.symm (ob_ar h231 h238)) (Ne.symm (ob_ar h234 h238)))).trans h238
              have h315 := (f306.1 q2 (nin2 (Ne.symm (ob_ar h231 h228)) (Ne.symm (ob_ar h234 h228)))).trans h228
              have h316 := (f306.1 q6 (nin2 (Ne.symm (ob_ar h231 h239)) (Ne.symm (ob_ar h234 h239)))).trans h239
              have hF317 := hF240.tr f306 (by simp)
              show pl _ _ _ (145, [(0, .ref r), (1, .int (nI k)), (2, .int (nI p)), (3, .int (nI (by1 f p)))], [.int 1], M302) _
              refine ps_if (S1 := (160, [], [], M302)) (S2 := (148, [(0, .ref r), (1, .int (nI k)), (2, .int (nI p)), (3, .int (nI (by1 f p)))], [], M302)) rfl rfl rfl (fun c_145 => ?_) (fun c_145 => ?_)
              · exact absurd (of_decide_eq_true c_145) (by decide)
              refine ps_st (S' := (149, [(0, .ref r), (1, .int (nI k)), (2, .int (nI p)), (3, .int (nI (by1 f p)))], [.ref r], M302)) rfl rfl rfl ?_
              refine ps_st (S' := (150, [(0, .ref r), (1, .int (nI k)), (2, .int (nI p)), (3, .int (nI (by1 f p)))], [.int 4, .ref r], M302)) rfl rfl rfl ?_
              refine pl_call (a := [.ref r, .int 4]) (rest := []) rfl rfl rfl (dx_takes4 h304 h308 h309 h305 (hn) (by omega)) (fun v318 M319 q320 => ?_)
              rcases q320 with q320 | q320
              · skip
                obtain ⟨q150_ok, rfl, h321, h322, f323⟩ := q320
                have h325 := (f323.1 b (nin2 (ob_ne h308 h304 (by decide)) (ob_ne h308 h305 (by decide)))).trans h308
                have h326 := (f323.1 da (nin2 (Ne.symm (ob_ar h304 h309)) (Ne.symm (ob_ar h305 h309)))).trans h309
                have h327 := (f323.1 c (nin2 (ob_ne h310 h304 (by decide)) (ob_ne h310 h305 (by decide)))).trans h310
                have h328 := (f323.1 pq (nin2 (ob_ne h311 h304 (by decide)) (ob_ne h311 h305 (by decide)))).trans h311
                have h329 := (f323.1 q1 (nin2 (Ne.symm (ob_ar h304 h312)) (Ne.symm (ob_ar h305 h312)))).trans h312
                have h330 := (f323.1 q3 (nin2 (Ne.symm (ob_ar h304 h313)) (Ne.symm (ob_ar h305 h313)))).trans h313
                have h331 := (f323.1 q4 (nin2 (Ne.symm (ob_ar h304 h314)) (Ne.symm (ob_ar h305 h314)))).trans h314
                have h332 := (f323.1 q2 (nin2 (Ne.symm (ob_ar h304 h315)) (Ne.symm (ob_ar h305 h315)))).trans h315
                have h333 := (f323.1 q6 (nin2 (Ne.symm (ob_ar h304 h316)) (Ne.symm (ob_ar h305 h316)))).trans h316
                have hF334 := hF317.tr f323 (by simp)
                show pl _ _ _ (153, [(0, .ref r), (1, .int (nI k)), (2, .int (nI p)), (3, .int (nI (by1 f p)))], [.int 1], M319) _
                refine ps_if (S1 := (160, [], [], M319)) (S2 := (156, [(0, .ref r), (1, .int (nI k)), (2, .int (nI p)), (3, .int (nI (by1 f p)))], [], M319)) rfl rfl rfl (fun c_153 => ?_) (fun c_153 => ?_)
                · exact absurd (of_decide_eq_true c_153) (by decide)
                refine ps_st (S' := (157, [(0, .ref r), (1, .int (nI k)), (2, .int (nI p)), (3, .int (nI (by1 f p)))], [.int 1], M319)) rfl rfl rfl ?_
                refine ps_st (S' := (161, [], [.int 1], M319)) rfl rfl rfl ?_
                exact ps_ret rfl rfl (Or.inr (Or.inl ⟨p + 9, _, by
                    unfold s_entry
                    rw [if_neg (by omega), if_neg (fun h => h (by assumption)), if_neg (by omega)]
                    repeat' split
                    all_goals first | rfl | (exfalso; omega), by omega, rfl, h329, h332, h321, h322, h328, h330, h331, h333, hF334⟩))
              · skip
                obtain ⟨q150_no, rfl, h335, h336, f337⟩ := q320
                have h339 := (f337.1 b (nin2 (ob_ne h308 h304 (by decide)) (ob_ne h308 h305 (by decide)))).trans h308
                have h340 := (f337.1 da (nin2 (Ne.symm (ob_ar h304 h309)) (Ne.symm (ob_ar h305 h309)))).trans h309
                have h341 := (f337.1 c (nin2 (ob_ne h310 h304 (by decide)) (ob_ne h310 h305 (by decide)))).trans h310
                have h342 := (f337.1 pq (nin2 (ob_ne h311 h304 (by decide)) (ob_ne h311 h305 (by decide)))).trans h311
                have h343 := (f337.1 q1 (nin2 (Ne.symm (ob_ar h304 h312)) (Ne.symm (ob_ar h305 h312)))).trans h312
                have h344 := (f337.1 q3 (nin2 (Ne.symm (ob_ar h304 h313)) (Ne.symm (ob_ar h305 h313)))).trans h313
                have h345 := (f337.1 q4 (nin2 (Ne.symm (ob_ar h304 h314)) (Ne.symm (ob_ar h305 h314)))).trans h314
                have h346 := (f337.1 q2 (nin2 (Ne.symm (ob_ar h304 h315)) (Ne.symm (ob_ar h305 h315)))).trans h315
                have h347 := (f337.1 q6 (nin2 (Ne.symm (ob_ar h304 h316)) (Ne.symm (ob_ar h305 h316)))).trans h316
                have hF348 := hF317.tr f337 (by simp)
                show pl _ _ _ (153, [(0, .ref r), (1, .int (nI k)), (2, .int (nI p)), (3, .int (nI (by1 f p)))], [.int 0], M319) _
                refine ps_if (S1 := (160, [], [], M319)) (S2 := (156, [(0, .ref r), (1, .int (nI k)), (2, .int (nI p)), (3, .int (nI (by1 f p)))], [], M319)) rfl rfl rfl (fun c_153 => ?_) (fun c_153 => ?_)
                rotate_left
                · exact absurd (by decide) (of_decide_eq_false c_153)
                refine ps_st (S' := (161, [], [.int 0], M319)) rfl rfl rfl ?_
                exact ps_ret rfl rfl (Or.inr (Or.inr (Or.inr ⟨(1, p + 5), by
                    unfold s_entry
                    rw [if_neg (by omega), if_neg (fun h => h (by assumption)), if_neg (by omega)]
                    repeat' split
                    all_goals first | rfl | (exfalso; omega), rfl, h336, hF348⟩)))
            · skip
              obtain ⟨q142_no, rfl, h349, h350, f351⟩ := q303
              have h353 := (f351.1 b (nin2 (ob_ne h232 h231 (by decide)) (ob_ne h232 h234 (by decide)))).trans h232
              have h354 := (f351.1 da (nin2 (Ne.symm (ob_ar h231 h233)) (Ne.symm (ob_ar h234 h233)))).trans h233
              have h355 := (f351.1 c (nin2 (ob_ne h235 h231 (by decide)) (ob_ne h235 h234 (by decide)))).trans h235
              have h356 := (f351.1 pq (nin2 (ob_ne h236 h231 (by decide)) (ob_ne h236 h234 (by decide)))).trans h236
              have h357 := (f351.1 q1 (nin2 (Ne.symm (ob_ar h231 h227)) (Ne.symm (ob_ar h234 h227)))).trans h227
              have h358 := (f351.1 q3 (nin2 (Ne.symm (ob_ar h231 h237)) (Ne.symm (ob_ar h234 h237)))).trans h237
              have h359 := (f351.1 q4 (nin2 (Ne.symm (ob_ar h231 h238)) (Ne.symm (ob_ar h234 h238)))).trans h238
              have h360 := (f351.1 q2 (nin2 (Ne.symm (ob_ar h231 h228)) (Ne.symm (ob_ar h234 h228)))).trans h228
              have h361 := (f351.1 q6 (nin2 (Ne.symm (ob_ar h231 h239)) (Ne.symm (ob_ar h234 h239)))).trans h239
              have hF362 := hF240.tr f351 (by simp)
              show pl _ _ _ (145, [(0, .ref r), (1, .int (nI k)), (2, .int (nI p)), (3, .int (nI (by1 f p)))], [.int 0], M302) _
              refine ps_if (S1 := (160, [], [], M302)) (S2 := (148, [(0, .ref r), (1, .int (nI k)), (2, .int (nI p)), (3, .int (nI (by1 f p)))], [], M302)) rfl rfl rfl (fun c_145 => ?_) (fun c_145 => ?_)
              rotate_left
              · exact absurd (by decide) (of_decide_eq_false c_145)
              refine ps_st (S' := (161, [], [.int 0], M302)) rfl rfl rfl ?_
              exact ps_ret rfl rfl (Or.inr (Or.inr (Or.inr ⟨(1, p + 1), by
                  unfold s_entry
                  rw [if_neg (by omega), if_neg (fun h => h (by assumption)), if_neg (by omega)]
                  repeat' split
                  all_goals first | rfl | (exfalso; omega), rfl, h350, hF362⟩)))
          · show pl _ _ _ (162, [(0, .ref r), (1, .int (nI k)), (2, .int (nI p)), (3, .int (nI (by1 f p)))], [], M225) _
            have m_90 := sw_nat (t := by1 f p) (by omega) et_90
            simp at m_90
            refine ps_st (S' := (163, [(0, .ref r), (1, .int (nI k)), (2, .int (nI p)), (3, .int (nI (by1 f p)))], [.ref r], M225)) rfl rfl rfl ?_
            refine ps_st (S' := (164, [(0, .ref r), (1, .int (nI k)), (2, .int (nI p)), (3, .int (nI (by1 f p)))], [.int (nI k), .ref r], M225)) rfl rfl rfl ?_
            refine ps_st (S' := (165, [(0, .ref r), (1, .int (nI k)), (2, .int (nI p)), (3, .int (nI (by1 f p)))], [.int (nI (by1 f p)), .int (nI k), .ref r], M225)) rfl rfl rfl ?_
            refine pl_call (a := [.ref r, .int (nI k), .int (nI (by1 f p))]) (rest := []) rfl rfl rfl (dx_takesIndexes h231 h232 h233 h234 h235 h236 h227 h237 h238 (hn) (by omega) (hD) (hh) (hk3 (by omega)) (by1_lt _ _)) (fun v363 M364 q365 => ?_)
            rcases q365 with q365 | q365
            · skip
              obtain ⟨p'366, x367, y368, it'369, q165_s, rfl, h370, h371, h372, h373, f374⟩ := q365
              have h376 := (f374.1 b (nin4 (ob_ne h232 h231 (by decide)) (ob_ne h232 h234 (by decide)) (ob_ar h232 h237) (ob_ar h232 h238))).trans h232
              have h377 := (f374.1 da (nin4 (Ne.symm (ob_ar h231 h233)) (Ne.symm (ob_ar h234 h233)) (ar_ne h233 h237 (by decide)) (ar_ne h233 h238 (by decide)))).trans h233
              have h378 := (f374.1 c (nin4 (ob_ne h235 h231 (by decide)) (ob_ne h235 h234 (by decide)) (ob_ar h235 h237) (ob_ar h235 h238))).trans h235
              have h379 := (f374.1 pq (nin4 (ob_ne h236 h231 (by decide)) (ob_ne h236 h234 (by decide)) (ob_ar h236 h237) (ob_ar h236 h238))).trans h236
              have h380 := (f374.1 q1 (nin4 (Ne.symm (ob_ar h231 h227)) (Ne.symm (ob_ar h234 h227)) hD.1.2.1 hD.1.2.2.1)).trans h227
              have h381 := (f374.1 q2 (nin4 (Ne.symm (ob_ar h231 h228)) (Ne.symm (ob_ar h234 h228)) hD.2.1.1 hD.2.1.2.1)).trans h228
              have h382 := (f374.1 q6 (nin4 (Ne.symm (ob_ar h231 h239)) (Ne.symm (ob_ar h234 h239)) (ar_ne h239 h237 (by decide)) (ar_ne h239 h238 (by decide)))).trans h239
              have hF383 := hF240.tr f374 (by simp)
              show pl _ _ _ (168, [(0, .ref r), (1, .int (nI k)), (2, .int (nI p)), (3, .int (nI (by1 f p)))], [.int 1], M364) _
              exact ps_ret rfl rfl (Or.inr (Or.inr (Or.inl ⟨_, _, _, _, by
                  unfold s_entry
                  rw [if_neg (by omega), if_neg (fun h => h (by assumption)), if_neg (by omega)]
                  rw [if_neg (by omega), if_neg (by omega), if_neg (by omega), q165_s], s_ix_le q165_s, rfl, h380, h381, h370, h371, h379, h372, h373, h382, hF383⟩)))
            · skip
              obtain ⟨e384, q165_s, rfl, h385, f386⟩ := q365
              have h388 := (f386.1 b (nin4 (ob_ne h232 h231 (by decide)) (ob_ne h232 h234 (by decide)) (ob_ar h232 h237) (ob_ar h232 h238))).trans h232
              have h389 := (f386.1 da (nin4 (Ne.symm (ob_ar h231 h233)) (Ne.symm (ob_ar h234 h233)) (ar_ne h233 h237 (by decide)) (ar_ne h233 h238 (by decide)))).trans h233
              have h390 := (f386.1 c (nin4 (ob_ne h235 h231 (by decide)) (ob_ne h235 h234 (by decide)) (ob_ar h235 h237) (ob_ar h235 h238))).trans h235
              have h391 := (f386.1 pq (nin4 (ob_ne h236 h231 (by decide)) (ob_ne h236 h234 (by decide)) (ob_ar h236 h237) (ob_ar h236 h238))).trans h236
              have h392 := (f386.1 q1 (nin4 (Ne.symm (ob_ar h231 h227)) (Ne.symm (ob_ar h234 h227)) hD.1.2.1 hD.1.2.2.1)).trans h227
              have h393 := (f386.1 q2 (nin4 (Ne.symm (ob_ar h231 h228)) (Ne.symm (ob_ar h234 h228)) hD.2.1.1 hD.2.1.2.1)).trans h228
              have h394 := (f386.1 q6 (nin4 (Ne.symm (ob_ar h231 h239)) (Ne.symm (ob_ar h234 h239)) (ar_ne h239 h237 (by decide)) (ar_ne h239 h238 (by decide)))).trans h239
              have hF395 := hF240.tr f386 (by simp)
              show pl _ _ _ (168, [(0, .ref r), (1, .int (nI k)), (2, .int (nI p)), (3, .int (nI (by1 f p)))], [.int 0], M364) _
              exact ps_ret rfl rfl (Or.inr (Or.inr (Or.inr ⟨_, by
                  unfold s_entry
                  rw [if_neg (by omega), if_neg (fun h => h (by assumption)), if_neg (by omega)]
                  rw [if_neg (by omega), if_neg (by omega), if_neg (by omega), q165_s], rfl, h385, hF395⟩)))
        · have c_46 : ¬ (¬ (nI (by1 f p)) = 6) := of_decide_eq_false c_46
          have n_46 : by1 f p = 6 := (eq_nI (p := by1 f p) (n := 6) (Nat.lt_trans (by1_lt _ _) (by decide)) (by decide)).mp (Decidable.not_not.mp c_46)
          refine ps_st (S' := (50, [(0, .ref r), (1, .int (nI k)), (2, .int (nI p)), (3, .int (nI (by1 f p)))], [.int (nI k)], M19)) rfl rfl rfl ?_
          refine ps_st (S' := (51, [(0, .ref r), (1, .int (nI k)), (2, .int (nI p)), (3, .int (nI (by1 f p)))], [.int 1, .int (nI k)], M19)) rfl rfl rfl ?_
          refine ps_st (S' := (52, [(0, .ref r), (1, .int (nI k)), (2, .int (nI p)), (3, .int (nI (by1 f p)))], [.int ((nI k) + 1)], M19)) rfl rfl rfl ?_
          rw [nI_add1 (p := k) (k := 1) (x := 1) rfl (by omega)]
          show pl _ _ _ (_, [(0, .ref r), (1, .int (nI k)), (2, .int (nI p)), (3, .int (nI (by1 f p)))], [.int (nI (k + 1))], M19) _
          refine ps_st (S' := (53, [(0, .ref r), (1, .int (nI k)), (2, .int (nI p)), (3, .int (nI (by1 f p)))], [.ref r, .int (nI (k + 1))], M19)) rfl rfl rfl ?_
          refine ps_get (S' := (56, [(0, .ref r), (1, .int (nI k)), (2, .int (nI p)), (3, .int (nI (by1 f p)))], [.ref c, .int (nI (k + 1))], M19)) rfl h23 rfl rfl ?_
          refine ps_get (S' := (59, [(0, .ref r), (1, .int (nI k)), (2, .int (nI p)), (3, .int (nI (by1 f p)))], [.ref pq, .int (nI (k + 1))], M19)) rfl h27 rfl rfl ?_
          refine ps_get (S' := (62, [(0, .ref r), (1, .int (nI k)), (2, .int (nI p)), (3, .int (nI (by1 f p)))], [.int (nI N), .int (nI (k + 1))], M19)) rfl h28 rfl rfl ?_
          refine ps_if2 (S1 := (76, [(0, .ref r), (1, .int (nI k)), (2, .int (nI p)), (3, .int (nI (by1 f p)))], [], M19)) (S2 := (65, [(0, .ref r), (1, .int (nI k)), (2, .int (nI p)), (3, .int (nI (by1 f p)))], [], M19)) rfl rfl rfl (fun c_62 => ?_) (fun c_62 => ?_)
          · have c_62 : (nI (k + 1)) < (nI N) := of_decide_eq_true c_62
            have n_62 : k + 1 < N := (lt_nI (p := k + 1) (n := N) (by omega) (by omega)).mp c_62
            refine ps_st (S' := (77, [(0, .ref r), (1, .int (nI k)), (2, .int (nI p)), (3, .int (nI (by1 f p)))], [.ref r], M19)) rfl rfl rfl ?_
            refine ps_get (S' := (80, [(0, .ref r), (1, .int (nI k)), (2, .int (nI p)), (3, .int (nI (by1 f p)))], [.ref c], M19)) rfl h23 rfl rfl ?_
            refine ps_get (S' := (83, [(0, .ref r), (1, .int (nI k)), (2, .int (nI p)), (3, .int (nI (by1 f p)))], [.ref pq], M19)) rfl h27 rfl rfl ?_
            refine ps_st (S' := (84, [(0, .ref r), (1, .int (nI k)), (2, .int (nI p)), (3, .int (nI (by1 f p)))], [.int (nI k), .ref pq], M19)) rfl rfl rfl ?_
            refine ps_st (S' := (85, [(0, .ref r), (1, .int (nI k)), (2, .int (nI p)), (3, .int (nI (by1 f p)))], [.int (nI (by1 f p)), .int (nI k), .ref pq], M19)) rfl rfl rfl ?_
            refine ps_st (S' := (86, [(0, .ref r), (1, .int (nI k)), (2, .int (nI p)), (3, .int (nI (by1 f p)))], [.int (nI p), .int (nI (by1 f p)), .int (nI k), .ref pq], M19)) rfl rfl rfl ?_
            refine pl_call (a := [.ref pq, .int (nI k), .int (nI (by1 f p)), .int (nI p)]) (rest := []) rfl rfl rfl (dx_setTag h28 h29 h32 (hD) (hh) (hk3 (by omega))) (fun v396 M397 q398 => ?_)
            obtain ⟨rfl, h399, h400, f401⟩ := q398
            have h403 := (f401.1 r (nin2 (ob_ar h23 h29) (ob_ar h23 h32))).trans h23
            have h404 := (f401.1 b (nin2 (ob_ar h24 h29) (ob_ar h24 h32))).trans h24
            have h405 := (f401.1 da (nin2 (ar_ne h25 h29 (by decide)) (ar_ne h25 h32 (by decide)))).trans h25
            have h406 := (f401.1 vd (nin2 (ob_ar h26 h29) (ob_ar h26 h32))).trans h26
            have h407 := (f401.1 c (nin2 (ob_ar h27 h29) (ob_ar h27 h32))).trans h27
            have h408 := (f401.1 pq (nin2 (ob_ar h28 h29) (ob_ar h28 h32))).trans h28
            have h409 := (f401.1 q3 (nin2 (Ne.symm hD.1.2.1) (Ne.symm hD.2.1.1))).trans h30
            have h410 := (f401.1 q4 (nin2 (Ne.symm hD.1.2.2.1) (Ne.symm hD.2.1.2.1))).trans h31
            have h411 := (f401.1 q6 (nin2 (ar_ne h33 h29 (by decide)) (ar_ne h33 h32 (by decide)))).trans h33
            have hF412 := hF34.tr f401 (by simp)
            show pl _ _ _ (89, [(0, .ref r), (1, .int (nI k)), (2, .int (nI p)), (3, .int (nI (by1 f p)))], [], M397) _
            refine ps_st (S' := (90, [(0, .ref r), (1, .int (nI k)), (2, .int (nI p)), (3, .int (nI (by1 f p)))], [.int (nI (by1 f p))], M397)) rfl rfl rfl ?_
            refine pl_sw rfl (fun t_90 et_90 => ?_)
            have ht_90 : t_90 ∈ [128, 134, 140, 162] := mi_sw_sub et_90 (by decide)
            simp only [List.mem_cons, List.not_mem_nil, or_false] at ht_90
            rcases ht_90 with rfl | rfl | rfl | rfl
            · show pl _ _ _ (128, [(0, .ref r), (1, .int (nI k)), (2, .int (nI p)), (3, .int (nI (by1 f p)))], [], M397) _
              have m_90 := sw_nat (t := by1 f p) (by omega) et_90
              simp at m_90
              refine ps_st (S' := (129, [(0, .ref r), (1, .int (nI k)), (2, .int (nI p)), (3, .int (nI (by1 f p)))], [.ref r], M397)) rfl rfl rfl ?_
              refine ps_st (S' := (130, [(0, .ref r), (1, .int (nI k)), (2, .int (nI p)), (3, .int (nI (by1 f p)))], [.int (nI k), .ref r], M397)) rfl rfl rfl ?_
              refine pl_call (a := [.ref r, .int (nI k)]) (rest := []) rfl rfl rfl (dx_takesText h403 h404 h405 h406 h407 h408 h399 h409 h410 h411 (hn) (by omega) (hD) (hh) (hm) (hk3 (by omega)) (by omega)) (fun v413 M414 q415 => ?_)
              rcases q415 with q415 | q415
              · skip
                obtain ⟨l416, it'417, q130_s, q130_e, q130_c, rfl, h418, h419, h420, h421, h422, h423, f424⟩ := q415
                have h426 := (f424.1 b (nin6 (ob_ne h404 h403 (by decide)) (ob_ne h404 h406 (by decide)) (ob_ne h404 h408 (by decide)) (ob_ar h404 h409) (ob_ar h404 h410) (ob_ar h404 h411))).trans h404
                have h427 := (f424.1 da (nin6 (Ne.symm (ob_ar h403 h405)) (Ne.symm (ob_ar h406 h405)) (Ne.symm (ob_ar h408 h405)) (ar_ne h405 h409 (by decide)) (ar_ne h405 h410 (by decide)) (ar_ne h405 h411 (by decide)))).trans h405
                have h428 := (f424.1 c (nin6 (ob_ne h407 h403 (by decide)) (ob_ne h407 h406 (by decide)) (ob_ne h407 h408 (by decide)) (ob_ar h407 h409) (ob_ar h407 h410) (ob_ar h407 h411))).trans h407
                have h429 := (f424.1 q1 (nin6 (Ne.symm (ob_ar h403 h399)) (Ne.symm (ob_ar h406 h399)) (Ne.symm (ob_ar h408 h399)) hD.1.2.1 hD.1.2.2.1 (ar_ne h399 h411 (by decide)))).trans h399
                have h430 := (f424.1 q2 (nin6 (Ne.symm (ob_ar h403 h400)) (Ne.symm (ob_ar h406 h400)) (Ne.symm (ob_ar h408 h400)) hD.2.1.1 hD.2.1.2.1 (ar_ne h400 h411 (by decide)))).trans h400
                have hF431 := hF412.tr f424 (by simp)
                show pl _ _ _ (133, [(0, .ref r), (1, .int (nI k)), (2, .int (nI p)), (3, .int (nI (by1 f p)))], [.int 1], M414) _
                exact ps_ret rfl rfl (Or.inl ⟨_, l416, _, by
                    unfold s_entry
                    rw [if_neg (by omega), if_neg (fun h => h (by assumption)), if_neg (by omega)]
                    rw [if_pos (by omega), q130_s], by omega, by omega, rfl, h429, h430, h418, h419, h420, h421, h422, h423, hF431⟩)
              · skip
                obtain ⟨e432, q130_s, rfl, h433, f434⟩ := q415
                have h436 := (f434.1 b (nin6 (ob_ne h404 h403 (by decide)) (ob_ne h404 h406 (by decide)) (ob_ne h404 h408 (by decide)) (ob_ar h404 h409) (ob_ar h404 h410) (ob_ar h404 h411))).trans h404
                have h437 := (f434.1 da (nin6 (Ne.symm (ob_ar h403 h405)) (Ne.symm (ob_ar h406 h405)) (Ne.symm (ob_ar h408 h405)) (ar_ne h405 h409 (by decide)) (ar_ne h405 h410 (by decide)) (ar_ne h405 h411 (by decide)))).trans h405
                have h438 := (f434.1 c (nin6 (ob_ne h407 h403 (by decide)) (ob_ne h407 h406 (by decide)) (ob_ne h407 h408 (by decide)) (ob_ar h407 h409) (ob_ar h407 h410) (ob_ar h407 h411))).trans h407
                have h439 := (f434.1 q1 (nin6 (Ne.symm (ob_ar h403 h399)) (Ne.symm (ob_ar h406 h399)) (Ne.symm (ob_ar h408 h399)) hD.1.2.1 hD.1.2.2.1 (ar_ne h399 h411 (by decide)))).trans h399
                have h440 := (f434.1 q2 (nin6 (Ne.symm (ob_ar h403 h400)) (Ne.symm (ob_ar h406 h400)) (Ne.symm (ob_ar h408 h400)) hD.2.1.1 hD.2.1.2.1 (ar_ne h400 h411 (by decide)))).trans h400
                have hF441 := hF412.tr f434 (by simp)
                show pl _ _ _ (133, [(0, .ref r), (1, .int (nI k)), (2, .int (nI p)), (3, .int (nI (by1 f p)))], [.int 0], M414) _
                exact ps_ret rfl rfl (Or.inr (Or.inr (Or.inr ⟨_, by
                    unfold s_entry
                    rw [if_neg (by omega), if_neg (fun h => h (by assumption)), if_neg (by omega)]
                    rw [if_pos (by omega), q130_s], rfl, h433, hF441⟩)))
            · show pl _ _ _ (134, [(0, .ref r), (1, .int (nI k)), (2, .int (nI p)), (3, .int (nI (by1 f p)))], [], M397) _
              have m_90 := sw_nat (t := by1 f p) (by omega) et_90
              simp at m_90
              refine ps_st (S' := (135, [(0, .ref r), (1, .int (nI k)), (2, .int (nI p)), (3, .int (nI (by1 f p)))], [.ref r], M397)) rfl rfl rfl ?_
              refine ps_st (S' := (136, [(0, .ref r), (1, .int (nI k)), (2, .int (nI p)), (3, .int (nI (by1 f p)))], [.int 4, .ref r], M397)) rfl rfl rfl ?_
              refine pl_call (a := [.ref r, .int 4]) (rest := []) rfl rfl rfl (dx_takes4 h403 h404 h405 h406 (hn) (by omega)) (fun v442 M443 q444 => ?_)
              rcases q444 with q444 | q444
              · skip
                obtain ⟨q136_ok, rfl, h445, h446, f447⟩ := q444
                have h449 := (f447.1 b (nin2 (ob_ne h404 h403 (by decide)) (ob_ne h404 h406 (by decide)))).trans h404
                have h450 := (f447.1 da (nin2 (Ne.symm (ob_ar h403 h405)) (Ne.symm (ob_ar h406 h405)))).trans h405
                have h451 := (f447.1 c (nin2 (ob_ne h407 h403 (by decide)) (ob_ne h407 h406 (by decide)))).trans h407
                have h452 := (f447.1 pq (nin2 (ob_ne h408 h403 (by decide)) (ob_ne h408 h406 (by decide)))).trans h408
                have h453 := (f447.1 q1 (nin2 (Ne.symm (ob_ar h403 h399)) (Ne.symm (ob_ar h406 h399)))).trans h399
                have h454 := (f447.1 q3 (nin2 (Ne.symm (ob_ar h403 h409)) (Ne.symm (ob_ar h406 h409)))).trans h409
                have h455 := (f447.1 q4 (nin2 (Ne.symm (ob_ar h403 h410)) (Ne.symm (ob_ar h406 h410)))).trans h410
                have h456 := (f447.1 q2 (nin2 (Ne.symm (ob_ar h403 h400)) (Ne.symm (ob_ar h406 h400)))).trans h400
                have h457 := (f447.1 q6 (nin2 (Ne.symm (ob_ar h403 h411)) (Ne.symm (ob_ar h406 h411)))).trans h411
                have hF458 := hF412.tr f447 (by simp)
                show pl _ _ _ (139, [(0, .ref r), (1, .int (nI k)), (2, .int (nI p)), (3, .int (nI (by1 f p)))], [.int 1], M443) _
                exact ps_ret rfl rfl (Or.inr (Or.inl ⟨p + 5, _, by
                    unfold s_entry
                    rw [if_neg (by omega), if_neg (fun h => h (by assumption)), if_neg (by omega)]
                    repeat' split
                    all_goals first | rfl | (exfalso; omega), by omega, rfl, h453, h456, h445, h446, h452, h454, h455, h457, hF458⟩))
              · skip
                obtain ⟨q136_no, rfl, h459, h460, f461⟩ := q444
                have h463 := (f461.1 b (nin2 (ob_ne h404 h403 (by decide)) (ob_ne h404 h406 (by decide)))).trans h404
                have h464 := (f461.1 da (nin2 (Ne.symm (ob_ar h403 h405)) (Ne.symm (ob_ar h406 h405)))).trans h405
                have h465 := (f461.1 c (nin2 (ob_ne h407 h403 (by decide)) (ob_ne h407 h406 (by decide)))).trans h407
                have h466 := (f461.1 pq (nin2 (ob_ne h408 h403 (by decide)) (ob_ne h408 h406 (by decide)))).trans h408
                have h467 := (f461.1 q1 (nin2 (Ne.symm (ob_ar h403 h399)) (Ne.symm (ob_ar h406 h399)))).trans h399
                have h468 := (f461.1 q3 (nin2 (Ne.symm (ob_ar h403 h409)) (Ne.symm (ob_ar h406 h409)))).trans h409
                have h469 := (f461.1 q4 (nin2 (Ne.symm (ob_ar h403 h410)) (Ne.symm (ob_ar h406 h410)))).trans h410
                have h470 := (f461.1 q2 (nin2 (Ne.symm (ob_ar h403 h400)) (Ne.symm (ob_ar h406 h400)))).trans h400
                have h471 := (f461.1 q6 (nin2 (Ne.symm (ob_ar h403 h411)) (Ne.symm (ob_ar h406 h411)))).trans h411
                have hF472 := hF412.tr f461 (by simp)
                show pl _ _ _ (139, [(0, .ref r), (1, .int (nI k)), (2, .int (nI p)), (3, .int (nI (by1 f p)))], [.int 0], M443) _
                exact ps_ret rfl rfl (Or.inr (Or.inr (Or.inr ⟨(1, p + 1), by
                    unfold s_entry
                    rw [if_neg (by omega), if_neg (fun h => h (by assumption)), if_neg (by omega)]
                    repeat' split
                    all_goals first | rfl | (exfalso; omega), rfl, h460, hF472⟩)))
            · show pl _ _ _ (140, [(0, .ref r), (1, .int (nI k)), (2, .int (nI p)), (3, .int (nI (by1 f p)))], [], M397) _
              have m_90 := sw_nat (t := by1 f p) (by omega) et_90
              simp at m_90
              refine ps_st (S' := (141, [(0, .ref r), (1, .int (nI k)), (2, .int (nI p)), (3, .int (nI (by1 f p)))], [.ref r], M397)) rfl rfl rfl ?_
              refine ps_st (S' := (142, [(0, .ref r), (1, .int (nI k)), (2, .int (nI p)), (3, .int (nI (by1 f p)))], [.int 4, .ref r], M397)) rfl rfl rfl ?_
              refine pl_call (a := [.ref r, .int 4]) (rest := []) rfl rfl rfl (dx_takes4 h403 h404 h405 h406 (hn) (by omega)) (fun v473 M474 q475 => ?_)
              rcases q475 with q475 | q475
              · skip
                obtain ⟨q142_ok, rfl, h476, h477, f478⟩ := q475
                have h480 := (f478.1 b (nin2 (ob_ne h404 h403 (by decide)) (ob_ne h404 h406 (by decide)))).trans h404
                have h481 := (f478.1 da (nin2 (Ne.symm (ob_ar h403 h405)) (Ne.symm (ob_ar h406 h405)))).trans h405
                have h482 := (f478.1 c (nin2 (ob_ne h407 h403 (by decide)) (ob_ne h407 h406 (by decide)))).trans h407
                have h483 := (f478.1 pq (nin2 (ob_ne h408 h403 (by decide)) (ob_ne h408 h406 (by decide)))).trans h408
                have h484 := (f478.1 q1 (nin2 (Ne.symm (ob_ar h403 h399)) (Ne.symm (ob_ar h406 h399)))).trans h399
                have h485 := (f478.1 q3 (nin2 (Ne.symm (ob_ar h403 h409)) (Ne.symm (ob_ar h406 h409)))).trans h409
                have h486 := (f478.1 q4 (nin2 (Ne.symm (ob_ar h403 h410)) (Ne.symm (ob_ar h406 h410)))).trans h410
                have h487 := (f478.1 q2 (nin2 (Ne.symm (ob_ar h403 h400)) (Ne.symm (ob_ar h406 h400)))).trans h400
                have h488 := (f478.1 q6 (nin2 (Ne.symm (ob_ar h403 h411)) (Ne.symm (ob_ar h406 h411)))).trans h411
                have hF489 := hF412.tr f478 (by simp)
                show pl _ _ _ (145, [(0, .ref r), (1, .int (nI k)), (2, .int (nI p)), (3, .int (nI (by1 f p)))], [.int 1], M474) _
                refine ps_if (S1 := (160, [], [], M474)) (S2 := (148, [(0, .ref r), (1, .int (nI k)), (2, .int (nI p)), (3, .int (nI (by1 f p)))], [], M474)) rfl rfl rfl (fun c_145 => ?_) (fun c_145 => ?_)
                · exact absurd (of_decide_eq_true c_145) (by decide)
                refine ps_st (S' := (149, [(0, .ref r), (1, .int (nI k)), (2, .int (nI p)), (3, .int (nI (by1 f p)))], [.ref r], M474)) rfl rfl rfl ?_
                refine ps_st (S' := (150, [(0, .ref r), (1, .int (nI k)), (2, .int (nI p)), (3, .int (nI (by1 f p)))], [.int 4, .ref r], M474)) rfl rfl rfl ?_
                refine pl_call (a := [.ref r, .int 4]) (rest := []) rfl rfl rfl (dx_takes4 h476 h480 h481 h477 (hn) (by omega)) (fun v490 M491 q492 => ?_)
                rcases q492 with q492 | q492
                · skip
                  obtain ⟨q150_ok, rfl, h493, h494, f495⟩ := q492
                  have h497 := (f495.1 b (nin2 (ob_ne h480 h476 (by decide)) (ob_ne h480 h477 (by decide)))).trans h480
                  have h498 := (f495.1 da (nin2 (Ne.symm (ob_ar h476 h481)) (Ne.symm (ob_ar h477 h481)))).trans h481
                  have h499 := (f495.1 c (nin2 (ob_ne h482 h476 (by decide)) (ob_ne h482 h477 (by decide)))).trans h482
                  have h500 := (f495.1 pq (nin2 (ob_ne h483 h476 (by decide)) (ob_ne h483 h477 (by decide)))).trans h483
                  have h501 := (f495.1 q1 (nin2 (Ne.symm (ob_ar h476 h484)) (Ne.symm (ob_ar h477 h484)))).trans h484
                  have h502 := (f495.1 q3 (nin2 (Ne.symm (ob_ar h476 h485)) (Ne.symm (ob_ar h477 h485)))).trans h485
                  have h503 := (f495.1 q4 (nin2 (Ne.symm (ob_ar h476 h486)) (Ne.symm (ob_ar h477 h486)))).trans h486
                  have h504 := (f495.1 q2 (nin2 (Ne.symm (ob_ar h476 h487)) (Ne.symm (ob_ar h477 h487)))).trans h487
                  have h505 := (f495.1 q6 (nin2 (Ne.symm (ob_ar h476 h488)) (Ne.symm (ob_ar h477 h488)))).trans h488
                  have hF506 := hF489.tr f495 (by simp)
                  show pl _ _ _ (153, [(0, .ref r), (1, .int (nI k)), (2, .int (nI p)), (3, .int (nI (by1 f p)))], [.int 1], M491) _
                  refine ps_if (S1 := (160, [], [], M491)) (S2 := (156, [(0, .ref r), (1, .int (nI k)), (2, .int (nI p)), (3, .int (nI (by1 f p)))], [], M491)) rfl rfl rfl (fun c_153 => ?_) (fun c_153 => ?_)
                  · exact absurd (of_decide_eq_true c_153) (by decide)
                  refine ps_st (S' := (157, [(0, .ref r), (1, .int (nI k)), (2, .int (nI p)), (3, .int (nI (by1 f p)))], [.int 1], M491)) rfl rfl rfl ?_
                  refine ps_st (S' := (161, [], [.int 1], M491)) rfl rfl rfl ?_
                  exact ps_ret rfl rfl (Or.inr (Or.inl ⟨p + 9, _, by
                      unfold s_entry
                      rw [if_neg (by omega), if_neg (fun h => h (by assumption)), if_neg (by omega)]
                      repeat' split
                      all_goals first | rfl | (exfalso; omega), by omega, rfl, h501, h504, h493, h494, h500, h502, h503, h505, hF506⟩))
                · skip
                  obtain ⟨q150_no, rfl, h507, h508, f509⟩ := q492
                  have h511 := (f509.1 b (nin2 (ob_ne h480 h476 (by decide)) (ob_ne h480 h477 (by decide)))).trans h480
                  have h512 := (f509.1 da (nin2 (Ne.symm (ob_ar h476 h481)) (Ne.symm (ob_ar h477 h481)))).trans h481
                  have h513 := (f509.1 c (nin2 (ob_ne h482 h476 (by decide)) (ob_ne h482 h477 (by decide)))).trans h482
                  have h514 := (f509.1 pq (nin2 (ob_ne h483 h476 (by decide)) (ob_ne h483 h477 (by decide)))).trans h483
                  have h515 := (f509.1 q1 (nin2 (Ne.symm (ob_ar h476 h484)) (Ne.symm (ob_ar h477 h484)))).trans h484
                  have h516 := (f509.1 q3 (nin2 (Ne.symm (ob_ar h476 h485)) (Ne.symm (ob_ar h477 h485)))).trans h485
                  have h517 := (f509.1 q4 (nin2 (Ne.symm (ob_ar h476 h486)) (Ne.symm (ob_ar h477 h486)))).trans h486
                  have h518 := (f509.1 q2 (nin2 (Ne.symm (ob_ar h476 h487)) (Ne.symm (ob_ar h477 h487)))).trans h487
                  have h519 := (f509.1 q6 (nin2 (Ne.symm (ob_ar h476 h488)) (Ne.symm (ob_ar h477 h488)))).trans h488
                  have hF520 := hF489.tr f509 (by simp)
                  show pl _ _ _ (153, [(0, .ref r), (1, .int (nI k)), (2, .int (nI p)), (3, .int (nI (by1 f p)))], [.int 0], M491) _
                  refine ps_if (S1 := (160, [], [], M491)) (S2 := (156, [(0, .ref r), (1, .int (nI k)), (2, .int (nI p)), (3, .int (nI (by1 f p)))], [], M491)) rfl rfl rfl (fun c_153 => ?_) (fun c_153 => ?_)
                  rotate_left
                  · exact absurd (by decide) (of_decide_eq_false c_153)
                  refine ps_st (S' := (161, [], [.int 0], M491)) rfl rfl rfl ?_
                  exact ps_ret rfl rfl (Or.inr (Or.inr (Or.inr ⟨(1, p + 5), by
                      unfold s_entry
                      rw [if_neg (by omega), if_neg (fun h => h (by assumption)), if_neg (by omega)]
                      repeat' split
                      all_goals first | rfl | (exfalso; omega), rfl, h508, hF520⟩)))
              · skip
                obtain ⟨q142_no, rfl, h521, h522, f523⟩ := q475
                have h525 := (f523.1 b (nin2 (ob_ne h404 h403 (by decide)) (ob_ne h404 h406 (by decide)))).trans h404
                have h526 := (f523.1 da (nin2 (Ne.symm (ob_ar h403 h405)) (Ne.symm (ob_ar h406 h405)))).trans h405
                have h527 := (f523.1 c (nin2 (ob_ne h407 h403 (by decide)) (ob_ne h407 h406 (by decide)))).trans h407
                have h528 := (f523.1 pq (nin2 (ob_ne h408 h403 (by decide)) (ob_ne h408 h406 (by decide)))).trans h408
                have h529 := (f523.1 q1 (nin2 (Ne.symm (ob_ar h403 h399)) (Ne.symm (ob_ar h406 h399)))).trans h399
                have h530 := (f523.1 q3 (nin2 (Ne.symm (ob_ar h403 h409)) (Ne.symm (ob_ar h406 h409)))).trans h409
                have h531 := (f523.1 q4 (nin2 (Ne.symm (ob_ar h403 h410)) (Ne.symm (ob_ar h406 h410)))).trans h410
                have h532 := (f523.1 q2 (nin2 (Ne.symm (ob_ar h403 h400)) (Ne.symm (ob_ar h406 h400)))).trans h400
                have h533 := (f523.1 q6 (nin2 (Ne.symm (ob_ar h403 h411)) (Ne.symm (ob_ar h406 h411)))).trans h411
                have hF534 := hF412.tr f523 (by simp)
                show pl _ _ _ (145, [(0, .ref r), (1, .int (nI k)), (2, .int (nI p)), (3, .int (nI (by1 f p)))], [.int 0], M474) _
                refine ps_if (S1 := (160, [], [], M474)) (S2 := (148, [(0, .ref r), (1, .int (nI k)), (2, .int (nI p)), (3, .int (nI (by1 f p)))], [], M474)) rfl rfl rfl (fun c_145 => ?_) (fun c_145 => ?_)
                rotate_left
                · exact absurd (by decide) (of_decide_eq_false c_145)
                refine ps_st (S' := (161, [], [.int 0], M474)) rfl rfl rfl ?_
                exact ps_ret rfl rfl (Or.inr (Or.inr (Or.inr ⟨(1, p + 1), by
                    unfold s_entry
                    rw [if_neg (by omega), if_neg (fun h => h (by assumption)), if_neg (by omega)]
                    repeat' split
                    all_goals first | rfl | (exfalso; omega), rfl, h522, hF534⟩)))
            · show pl _ _ _ (162, [(0, .ref r), (1, .int (nI k)), (2, .int (nI p)), (3, .int (nI (by1 f p)))], [], M397) _
              have m_90 := sw_nat (t := by1 f p) (by omega) et_90
              simp at m_90
              refine ps_st (S' := (163, [(0, .ref r), (1, .int (nI k)), (2, .int (nI p)), (3, .int (nI (by1 f p)))], [.ref r], M397)) rfl rfl rfl ?_
              refine ps_st (S' := (164, [(0, .ref r), (1, .int (nI k)), (2, .int (nI p)), (3, .int (nI (by1 f p)))], [.int (nI k), .ref r], M397)) rfl rfl rfl ?_
              refine ps_st (S' := (165, [(0, .ref r), (1, .int (nI k)), (2, .int (nI p)), (3, .int (nI (by1 f p)))], [.int (nI (by1 f p)), .int (nI k), .ref r], M397)) rfl rfl rfl ?_
              refine pl_call (a := [.ref r, .int (nI k), .int (nI (by1 f p))]) (rest := []) rfl rfl rfl (dx_takesIndexes h403 h404 h405 h406 h407 h408 h399 h409 h410 (hn) (by omega) (hD) (hh) (hk3 (by omega)) (by1_lt _ _)) (fun v535 M536 q537 => ?_)
              rcases q537 with q537 | q537
              · skip
                obtain ⟨p'538, x539, y540, it'541, q165_s, rfl, h542, h543, h544, h545, f546⟩ := q537
                have h548 := (f546.1 b (nin4 (ob_ne h404 h403 (by decide)) (ob_ne h404 h406 (by decide)) (ob_ar h404 h409) (ob_ar h404 h410))).trans h404
                have h549 := (f546.1 da (nin4 (Ne.symm (ob_ar h403 h405)) (Ne.symm (ob_ar h406 h405)) (ar_ne h405 h409 (by decide)) (ar_ne h405 h410 (by decide)))).trans h405
                have h550 := (f546.1 c (nin4 (ob_ne h407 h403 (by decide)) (ob_ne h407 h406 (by decide)) (ob_ar h407 h409) (ob_ar h407 h410))).trans h407
                have h551 := (f546.1 pq (nin4 (ob_ne h408 h403 (by decide)) (ob_ne h408 h406 (by decide)) (ob_ar h408 h409) (ob_ar h408 h410))).trans h408
                have h552 := (f546.1 q1 (nin4 (Ne.symm (ob_ar h403 h399)) (Ne.symm (ob_ar h406 h399)) hD.1.2.1 hD.1.2.2.1)).trans h399
                have h553 := (f546.1 q2 (nin4 (Ne.symm (ob_ar h403 h400)) (Ne.symm (ob_ar h406 h400)) hD.2.1.1 hD.2.1.2.1)).trans h400
                have h554 := (f546.1 q6 (nin4 (Ne.symm (ob_ar h403 h411)) (Ne.symm (ob_ar h406 h411)) (ar_ne h411 h409 (by decide)) (ar_ne h411 h410 (by decide)))).trans h411
                have hF555 := hF412.tr f546 (by simp)
                show pl _ _ _ (168, [(0, .ref r), (1, .int (nI k)), (2, .int (nI p)), (3, .int (nI (by1 f p)))], [.int 1], M536) _
                exact ps_ret rfl rfl (Or.inr (Or.inr (Or.inl ⟨_, _, _, _, by
                    unfold s_entry
                    rw [if_neg (by omega), if_neg (fun h => h (by assumption)), if_neg (by omega)]
                    rw [if_neg (by omega), if_neg (by omega), if_neg (by omega), q165_s], s_ix_le q165_s, rfl, h552, h553, h542, h543, h551, h544, h545, h554, hF555⟩)))
              · skip
                obtain ⟨e556, q165_s, rfl, h557, f558⟩ := q537
                have h560 := (f558.1 b (nin4 (ob_ne h404 h403 (by decide)) (ob_ne h404 h406 (by decide)) (ob_ar h404 h409) (ob_ar h404 h410))).trans h404
                have h561 := (f558.1 da (nin4 (Ne.symm (ob_ar h403 h405)) (Ne.symm (ob_ar h406 h405)) (ar_ne h405 h409 (by decide)) (ar_ne h405 h410 (by decide)))).trans h405
                have h562 := (f558.1 c (nin4 (ob_ne h407 h403 (by decide)) (ob_ne h407 h406 (by decide)) (ob_ar h407 h409) (ob_ar h407 h410))).trans h407
                have h563 := (f558.1 pq (nin4 (ob_ne h408 h403 (by decide)) (ob_ne h408 h406 (by decide)) (ob_ar h408 h409) (ob_ar h408 h410))).trans h408
                have h564 := (f558.1 q1 (nin4 (Ne.symm (ob_ar h403 h399)) (Ne.symm (ob_ar h406 h399)) hD.1.2.1 hD.1.2.2.1)).trans h399
                have h565 := (f558.1 q2 (nin4 (Ne.symm (ob_ar h403 h400)) (Ne.symm (ob_ar h406 h400)) hD.2.1.1 hD.2.1.2.1)).trans h400
                have h566 := (f558.1 q6 (nin4 (Ne.symm (ob_ar h403 h411)) (Ne.symm (ob_ar h406 h411)) (ar_ne h411 h409 (by decide)) (ar_ne h411 h410 (by decide)))).trans h411
                have hF567 := hF412.tr f558 (by simp)
                show pl _ _ _ (168, [(0, .ref r), (1, .int (nI k)), (2, .int (nI p)), (3, .int (nI (by1 f p)))], [.int 0], M536) _
                exact ps_ret rfl rfl (Or.inr (Or.inr (Or.inr ⟨_, by
                    unfold s_entry
                    rw [if_neg (by omega), if_neg (fun h => h (by assumption)), if_neg (by omega)]
                    rw [if_neg (by omega), if_neg (by omega), if_neg (by omega), q165_s], rfl, h557, hF567⟩)))
          · have c_62 : ¬ ((nI (k + 1)) < (nI N)) := of_decide_eq_false c_62
            have n_62 : ¬ (k + 1 < N) := fun h9 => c_62 ((lt_nI (p := k + 1) (n := N) (by omega) (by omega)).mpr h9)
            refine ps_st (S' := (66, [(0, .ref r), (1, .int (nI k)), (2, .int (nI p)), (3, .int (nI (by1 f p)))], [.ref r], M19)) rfl rfl rfl ?_
            refine ps_get (S' := (69, [(0, .ref r), (1, .int (nI k)), (2, .int (nI p)), (3, .int (nI (by1 f p)))], [.ref vd], M19)) rfl h23 rfl rfl ?_
            refine ps_st (S' := (71, [(0, .ref r), (1, .int (nI k)), (2, .int (nI p)), (3, .int (nI (by1 f p)))], [.int 7, .ref vd], M19)) rfl rfl rfl ?_
            refine ps_st (S' := (72, [(0, .ref r), (1, .int (nI k)), (2, .int (nI p)), (3, .int (nI (by1 f p)))], [.int (nI p), .int 7, .ref vd], M19)) rfl rfl rfl ?_
            refine pl_call (a := [.ref vd, .int 7, .int (nI p)]) (rest := []) rfl rfl rfl (dx_wrong h26) (fun v568 M569 q570 => ?_)
            obtain ⟨rfl, h571, f572⟩ := q570
            have h574 := (f572.1 r (nin1 (ob_ne h23 h26 (by decide)))).trans h23
            have h575 := (f572.1 b (nin1 (ob_ne h24 h26 (by decide)))).trans h24
            have h576 := (f572.1 da (nin1 (Ne.symm (ob_ar h26 h25)))).trans h25
            have h577 := (f572.1 c (nin1 (ob_ne h27 h26 (by decide)))).trans h27
            have h578 := (f572.1 pq (nin1 (ob_ne h28 h26 (by decide)))).trans h28
            have h579 := (f572.1 q1 (nin1 (Ne.symm (ob_ar h26 h29)))).trans h29
            have h580 := (f572.1 q3 (nin1 (Ne.symm (ob_ar h26 h30)))).trans h30
            have h581 := (f572.1 q4 (nin1 (Ne.symm (ob_ar h26 h31)))).trans h31
            have h582 := (f572.1 q2 (nin1 (Ne.symm (ob_ar h26 h32)))).trans h32
            have h583 := (f572.1 q6 (nin1 (Ne.symm (ob_ar h26 h33)))).trans h33
            have hF584 := hF34.tr f572 (by simp)
            show pl _ _ _ (75, [(0, .ref r), (1, .int (nI k)), (2, .int (nI p)), (3, .int (nI (by1 f p)))], [.int 0], M569) _
            exact ps_ret rfl rfl (Or.inr (Or.inr (Or.inr ⟨(7, p), by
                unfold s_entry
                rw [if_neg (by omega), if_neg (fun h => h (by assumption)), if_pos (by omega)], rfl, h571, hF584⟩)))
    · skip
      obtain ⟨q22_n, rfl, f585⟩ := q20
      have h587 := (f585.1 r (by simp)).trans h4
      have h588 := (f585.1 b (by simp)).trans h8
      have h589 := (f585.1 da (by simp)).trans h9
      have h590 := (f585.1 vd (by simp)).trans h5
      have h591 := (f585.1 c (by simp)).trans h10
      have h592 := (f585.1 pq (by simp)).trans h11
      have h593 := (f585.1 q1 (by simp)).trans h12
      have h594 := (f585.1 q3 (by simp)).trans h13
      have h595 := (f585.1 q4 (by simp)).trans h14
      have h596 := (f585.1 q2 (by simp)).trans h15
      have h597 := (f585.1 q6 (by simp)).trans h16
      have hF598 := hF17.tr f585 (by simp)
      show pl _ _ _ (25, [(3, .int (nI (by1 f p))), (2, .int (nI p)), (0, .ref r), (1, .int (nI k))], [.int 0], M19) _
      refine ps_if (S1 := (38, [(3, .int (nI (by1 f p))), (2, .int (nI p)), (0, .ref r), (1, .int (nI k))], [], M19)) (S2 := (28, [(3, .int (nI (by1 f p))), (2, .int (nI p)), (0, .ref r), (1, .int (nI k))], [], M19)) rfl rfl rfl (fun c_25 => ?_) (fun c_25 => ?_)
      · exact absurd (of_decide_eq_true c_25) (by decide)
      refine ps_st (S' := (29, [(3, .int (nI (by1 f p))), (2, .int (nI p)), (0, .ref r), (1, .int (nI k))], [.ref r], M19)) rfl rfl rfl ?_
      refine ps_get (S' := (32, [(3, .int (nI (by1 f p))), (2, .int (nI p)), (0, .ref r), (1, .int (nI k))], [.ref vd], M19)) rfl h587 rfl rfl ?_
      refine ps_st (S' := (33, [(3, .int (nI (by1 f p))), (2, .int (nI p)), (0, .ref r), (1, .int (nI k))], [.int 5, .ref vd], M19)) rfl rfl rfl ?_
      refine ps_st (S' := (34, [(3, .int (nI (by1 f p))), (2, .int (nI p)), (0, .ref r), (1, .int (nI k))], [.int (nI p), .int 5, .ref vd], M19)) rfl rfl rfl ?_
      refine pl_call (a := [.ref vd, .int 5, .int (nI p)]) (rest := []) rfl rfl rfl (dx_wrong h590) (fun v599 M600 q601 => ?_)
      obtain ⟨rfl, h602, f603⟩ := q601
      have h605 := (f603.1 r (nin1 (ob_ne h587 h590 (by decide)))).trans h587
      have h606 := (f603.1 b (nin1 (ob_ne h588 h590 (by decide)))).trans h588
      have h607 := (f603.1 da (nin1 (Ne.symm (ob_ar h590 h589)))).trans h589
      have h608 := (f603.1 c (nin1 (ob_ne h591 h590 (by decide)))).trans h591
      have h609 := (f603.1 pq (nin1 (ob_ne h592 h590 (by decide)))).trans h592
      have h610 := (f603.1 q1 (nin1 (Ne.symm (ob_ar h590 h593)))).trans h593
      have h611 := (f603.1 q3 (nin1 (Ne.symm (ob_ar h590 h594)))).trans h594
      have h612 := (f603.1 q4 (nin1 (Ne.symm (ob_ar h590 h595)))).trans h595
      have h613 := (f603.1 q2 (nin1 (Ne.symm (ob_ar h590 h596)))).trans h596
      have h614 := (f603.1 q6 (nin1 (Ne.symm (ob_ar h590 h597)))).trans h597
      have hF615 := hF598.tr f603 (by simp)
      show pl _ _ _ (37, [(3, .int (nI (by1 f p))), (2, .int (nI p)), (0, .ref r), (1, .int (nI k))], [.int 0], M600) _
      exact ps_ret rfl rfl (Or.inr (Or.inr (Or.inr ⟨(5, p), by
          unfold s_entry
          rw [if_neg (by omega), if_pos (by assumption)], rfl, h602, hF615⟩)))
  · skip
    obtain ⟨q7_no, rfl, h616, h617, f618⟩ := q3
    have h620 := (f618.1 b (nin2 (ob_ne h_b h_r (by decide)) (ob_ne h_b h_vd (by decide)))).trans h_b
    have h621 := (f618.1 da (nin2 (Ne.symm (ob_ar h_r h_da)) (Ne.symm (ob_ar h_vd h_da)))).trans h_da
    have h622 := (f618.1 c (nin2 (ob_ne h_c h_r (by decide)) (ob_ne h_c h_vd (by decide)))).trans h_c
    have h623 := (f618.1 pq (nin2 (ob_ne h_pq h_r (by decide)) (ob_ne h_pq h_vd (by decide)))).trans h_pq
    have h624 := (f618.1 q1 (nin2 (Ne.symm (ob_ar h_r h_q1)) (Ne.symm (ob_ar h_vd h_q1)))).trans h_q1
    have h625 := (f618.1 q3 (nin2 (Ne.symm (ob_ar h_r h_q3)) (Ne.symm (ob_ar h_vd h_q3)))).trans h_q3
    have h626 := (f618.1 q4 (nin2 (Ne.symm (ob_ar h_r h_q4)) (Ne.symm (ob_ar h_vd h_q4)))).trans h_q4
    have h627 := (f618.1 q2 (nin2 (Ne.symm (ob_ar h_r h_q2)) (Ne.symm (ob_ar h_vd h_q2)))).trans h_q2
    have h628 := (f618.1 q6 (nin2 (Ne.symm (ob_ar h_r h_q6)) (Ne.symm (ob_ar h_vd h_q6)))).trans h_q6
    have hF629 := hF.tr f618 (by simp)
    show pl _ _ _ (10, [(2, .int (nI p)), (0, .ref r), (1, .int (nI k))], [.int 0], M2) _
    refine ps_if (S1 := (15, [(2, .int (nI p)), (0, .ref r), (1, .int (nI k))], [], M2)) (S2 := (13, [(2, .int (nI p)), (0, .ref r), (1, .int (nI k))], [], M2)) rfl rfl rfl (fun c_10 => ?_) (fun c_10 => ?_)
    · exact absurd (of_decide_eq_true c_10) (by decide)
    refine ps_st (S' := (14, [(2, .int (nI p)), (0, .ref r), (1, .int (nI k))], [.int 0], M2)) rfl rfl rfl ?_
    exact ps_ret rfl rfl (Or.inr (Or.inr (Or.inr ⟨(1, p), by
        unfold s_entry
        rw [if_pos (by omega)], rfl, h617, hF629⟩)))
end
section
/-! the pool is made and read (laid by wip/p4/d5.py) -/
set_option maxHeartbeats 1000000 in
theorem dx_pool {g : xe_G} {M : mi_H} {pq N n : Nat} (h_pq : M.1 pq = some (ob 7 [.int 0, .null, .null, .null, .null, .null, .null, .int 0])) (hq : pq < M.2.1) (hN : N < 65536) (hn : n ≤ 65540) : pt (mT g) 110 [.ref pq, .int (nI N), .int (nI n)] M (fun v M' => (v = none ∧ M'.1 pq = some (ob 7 [.int (nI N), .ref (M.2.1), .ref (M.2.1 + 1), .ref (M.2.1 + 2), .ref (M.2.1 + 3), .ref (M.2.1 + 4), .ref (M.2.1 + 5), .int 0]) ∧ M'.1 (M.2.1) = some (ar .int (min N (n / 3 + 1)) (fun _ => 0)) ∧ M'.1 (M.2.1 + 1) = some (ar .int (min N (n / 3 + 1)) (fun _ => 0)) ∧ M'.1 (M.2.1 + 2) = some (ar .int (min N (n / 3 + 1)) (fun _ => 0)) ∧ M'.1 (M.2.1 + 3) = some (ar .int (min N (n / 3 + 1)) (fun _ => 0)) ∧ M'.1 (M.2.1 + 4) = some (ar .int (min N (n / 3 + 1)) (fun _ => 0)) ∧ M'.1 (M.2.1 + 5) = some (ar .char n (fun _ => 0)) ∧ gm [pq] M M' ∧ M'.2.1 = M.2.1 + 6)) := by
  refine pt_in (b := mb_110 g) rfl (fun kf => ?_)
  show pl (mT g) kf (mb_110 g).2 (0, [(0, .ref pq), (1, .int (nI N)), (2, .int (nI n))], [], M) _
  have hF : gm [pq] M M := gm.rf
  obtain ⟨z0, tp0⟩ : ∃ z0, M.2.1 = z0 := ⟨_, rfl⟩
  refine ps_st (S' := (1, [(0, .ref pq), (1, .int (nI N)), (2, .int (nI n))], [.ref pq], M)) rfl rfl rfl ?_
  refine ps_st (S' := (4, [(0, .ref pq), (1, .int (nI N)), (2, .int (nI n))], [], M)) rfl rfl rfl ?_
  refine ps_st (S' := (5, [(0, .ref pq), (1, .int (nI N)), (2, .int (nI n))], [.ref pq], M)) rfl rfl rfl ?_
  refine ps_st (S' := (6, [(0, .ref pq), (1, .int (nI N)), (2, .int (nI n))], [.int (nI N), .ref pq], M)) rfl rfl rfl ?_
  refine ps_put (l' := [.int (nI N), .null, .null, .null, .null, .null, .null, .int 0]) rfl h_pq rfl rfl (fun M1 h2 f3 z4 => ?_)
  have hF5 := hF.up (Or.inl (by simp)) f3 (by rw [z4]; exact Nat.le_refl _)
  have tp6 : M1.2.1 = z0 := by rw [z4]; exact tp0
  show pl _ _ _ (9, [(0, .ref pq), (1, .int (nI N)), (2, .int (nI n))], [], M1) _
  refine ps_st (S' := (10, [(0, .ref pq), (1, .int (nI N)), (2, .int (nI n))], [.int 0], M1)) rfl rfl rfl ?_
  refine ps_st (S' := (11, [(0, .ref pq), (1, .int (nI N)), (2, .int (nI n))], [.int (nI N), .int 0], M1)) rfl rfl rfl ?_
  refine ps_st (S' := (12, [(0, .ref pq), (1, .int (nI N)), (2, .int (nI n))], [.int (nI n), .int (nI N), .int 0], M1)) rfl rfl rfl ?_
  refine ps_st (S' := (13, [(0, .ref pq), (1, .int (nI N)), (2, .int (nI n))], [.int 3, .int (nI n), .int (nI N), .int 0], M1)) rfl rfl rfl ?_
  refine ps_st (S' := (14, [(0, .ref pq), (1, .int (nI N)), (2, .int (nI n))], [.int ((nI n) / 3), .int (nI N), .int 0], M1)) rfl rfl rfl ?_
  rw [ndiv_nI (k := 3) rfl (by decide) (by omega)]
  show pl _ _ _ (_, [(0, .ref pq), (1, .int (nI N)), (2, .int (nI n))], [.int (nI (n / 3)), .int (nI N), .int 0], M1) _
  refine ps_st (S' := (15, [(0, .ref pq), (1, .int (nI N)), (2, .int (nI n))], [.int 1, .int (nI (n / 3)), .int (nI N), .int 0], M1)) rfl rfl rfl ?_
  refine ps_st (S' := (16, [(0, .ref pq), (1, .int (nI N)), (2, .int (nI n))], [.int ((nI (n / 3)) + 1), .int (nI N), .int 0], M1)) rfl rfl rfl ?_
  rw [nI_add1 (p := n / 3) (k := 1) (x := 1) rfl (by omega)]
  show pl _ _ _ (_, [(0, .ref pq), (1, .int (nI N)), (2, .int (nI n))], [.int (nI (n / 3 + 1)), .int (nI N), .int 0], M1) _
  refine ps_st (S' := (19, [(0, .ref pq), (1, .int (nI N)), (2, .int (nI n))], [.int (if (nI (n / 3 + 1)) < (nI N) then (nI (n / 3 + 1)) else (nI N)), .int 0], M1)) rfl rfl rfl ?_
  rw [nmin_nI (by omega) (by omega)]
  show pl _ _ _ (_, [(0, .ref pq), (1, .int (nI N)), (2, .int (nI n))], [.int (nI (min N (n / 3 + 1))), .int 0], M1) _
  refine ps_st (S' := (22, [(0, .ref pq), (1, .int (nI N)), (2, .int (nI n))], [.int (if 0 < (nI (min N (n / 3 + 1))) then (nI (min N (n / 3 + 1))) else 0)], M1)) rfl rfl rfl ?_
  rw [nmax0 (by omega)]
  show pl _ _ _ (_, [(0, .ref pq), (1, .int (nI N)), (2, .int (nI n))], [.int (nI (min N (n / 3 + 1)))], M1) _
  refine ps_st (S' := (23, [(3, .int (nI (min N (n / 3 + 1)))), (0, .ref pq), (1, .int (nI N)), (2, .int (nI n))], [], M1)) rfl rfl rfl ?_
  refine ps_st (S' := (24, [(3, .int (nI (min N (n / 3 + 1)))), (0, .ref pq), (1, .int (nI N)), (2, .int (nI n))], [.ref pq], M1)) rfl rfl rfl ?_
  refine ps_st (S' := (25, [(3, .int (nI (min N (n / 3 + 1)))), (0, .ref pq), (1, .int (nI N)), (2, .int (nI n))], [.int (nI (min N (n / 3 + 1))), .ref pq], M1)) rfl rfl rfl ?_
  refine ps_newa rfl tp6 (fun M7 i0_25 h8 f9 tp10 => ?_)
  rw [nI_toNat (by omega)] at h8
  have h11 := (f9 pq (show pq ≠ z0 by omega)).trans h2
  have hF12 := hF5.up (Or.inr (by omega)) f9 (by omega)
  show pl _ _ _ (27, [(3, .int (nI (min N (n / 3 + 1)))), (0, .ref pq), (1, .int (nI N)), (2, .int (nI n))], [.ref z0, .ref pq], M7) _
  refine ps_put (l' := [.int (nI N), .ref z0, .null, .null, .null, .null, .null, .int 0]) rfl h11 rfl rfl (fun M13 h14 f15 z16 => ?_)
  have h17 := (f15 z0 (show z0 ≠ pq by omega)).trans h8
  have hF18 := hF12.up (Or.inl (by simp)) f15 (by rw [z16]; exact Nat.le_refl _)
  have tp19 : M13.2.1 = z0 + 1 := by rw [z16]; exact tp10
  show pl _ _ _ (30, [(3, .int (nI (min N (n / 3 + 1)))), (0, .ref pq), (1, .int (nI N)), (2, .int (nI n))], [], M13) _
  refine ps_st (S' := (31, [(3, .int (nI (min N (n / 3 + 1)))), (0, .ref pq), (1, .int (nI N)), (2, .int (nI n))], [.ref pq], M13)) rfl rfl rfl ?_
  refine ps_st (S' := (32, [(3, .int (nI (min N (n / 3 + 1)))), (0, .ref pq), (1, .int (nI N)), (2, .int (nI n))], [.int (nI (min N (n / 3 + 1))), .ref pq], M13)) rfl rfl rfl ?_
  refine ps_newa rfl tp19 (fun M20 i0_32 h21 f22 tp23 => ?_)
  rw [nI_toNat (by omega)] at h21
  have h24 := (f22 pq (show pq ≠ (z0 + 1) by omega)).trans h14
  have h25 := (f22 z0 (show z0 ≠ (z0 + 1) by omega)).trans h17
  have hF26 := hF18.up (Or.inr (by omega)) f22 (by omega)
  show pl _ _ _ (34, [(3, .int (nI (min N (n / 3 + 1)))), (0, .ref pq), (1, .int (nI N)), (2, .int (nI n))], [.ref (z0 + 1), .ref pq], M20) _
  refine ps_put (l' := [.int (nI N), .ref z0, .ref (z0 + 1), .null, .null, .null, .null, .int 0]) rfl h24 rfl rfl (fun M27 h28 f29 z30 => ?_)
  have h31 := (f29 z0 (show z0 ≠ pq by omega)).trans h25
  have h32 := (f29 (z0 + 1) (show (z0 + 1) ≠ pq by omega)).trans h21
  have hF33 := hF26.up (Or.inl (by simp)) f29 (by rw [z30]; exact Nat.le_refl _)
  have tp34 : M27.2.1 = z0 + 2 := by rw [z30]; exact tp23
  show pl _ _ _ (37, [(3, .int (nI (min N (n / 3 + 1)))), (0, .ref pq), (1, .int (nI N)), (2, .int (nI n))], [], M27) _
  refine ps_st (S' := (38, [(3, .int (nI (min N (n / 3 + 1)))), (0, .ref pq), (1, .int (nI N)), (2, .int (nI n))], [.ref pq], M27)) rfl rfl rfl ?_
  refine ps_st (S' := (39, [(3, .int (nI (min N (n / 3 + 1)))), (0, .ref pq), (1, .int (nI N)), (2, .int (nI n))], [.int (nI (min N (n / 3 + 1))), .ref pq], M27)) rfl rfl rfl ?_
  refine ps_newa rfl tp34 (fun M35 i0_39 h36 f37 tp38 => ?_)
  rw [nI_toNat (by omega)] at h36
  have h39 := (f37 pq (show pq ≠ (z0 + 2) by omega)).trans h28
  have h40 := (f37 z0 (show z0 ≠ (z0 + 2) by omega)).trans h31
  have h41 := (f37 (z0 + 1) (show (z0 + 1) ≠ (z0 + 2) by omega)).trans h32
  have hF42 := hF33.up (Or.inr (by omega)) f37 (by omega)
  show pl _ _ _ (41, [(3, .int (nI (min N (n / 3 + 1)))), (0, .ref pq), (1, .int (nI N)), (2, .int (nI n))], [.ref (z0 + 2), .ref pq], M35) _
  refine ps_put (l' := [.int (nI N), .ref z0, .ref (z0 + 1), .ref (z0 + 2), .null, .null, .null, .int 0]) rfl h39 rfl rfl (fun M43 h44 f45 z46 => ?_)
  have h47 := (f45 z0 (show z0 ≠ pq by omega)).trans h40
  have h48 := (f45 (z0 + 1) (show (z0 + 1) ≠ pq by omega)).trans h41
  have h49 := (f45 (z0 + 2) (show (z0 + 2) ≠ pq by omega)).trans h36
  have hF50 := hF42.up (Or.inl (by simp)) f45 (by rw [z46]; exact Nat.le_refl _)
  have tp51 : M43.2.1 = z0 + 3 := by rw [z46]; exact tp38
  show pl _ _ _ (44, [(3, .int (nI (min N (n / 3 + 1)))), (0, .ref pq), (1, .int (nI N)), (2, .int (nI n))], [], M43) _
  refine ps_st (S' := (45, [(3, .int (nI (min N (n / 3 + 1)))), (0, .ref pq), (1, .int (nI N)), (2, .int (nI n))], [.ref pq], M43)) rfl rfl rfl ?_
  refine ps_st (S' := (46, [(3, .int (nI (min N (n / 3 + 1)))), (0, .ref pq), (1, .int (nI N)), (2, .int (nI n))], [.int (nI (min N (n / 3 + 1))), .ref pq], M43)) rfl rfl rfl ?_
  refine ps_newa rfl tp51 (fun M52 i0_46 h53 f54 tp55 => ?_)
  rw [nI_toNat (by omega)] at h53
  have h56 := (f54 pq (show pq ≠ (z0 + 3) by omega)).trans h44
  have h57 := (f54 z0 (show z0 ≠ (z0 + 3) by omega)).trans h47
  have h58 := (f54 (z0 + 1) (show (z0 + 1) ≠ (z0 + 3) by omega)).trans h48
  have h59 := (f54 (z0 + 2) (show (z0 + 2) ≠ (z0 + 3) by omega)).trans h49
  have hF60 := hF50.up (Or.inr (by omega)) f54 (by omega)
  show pl _ _ _ (48, [(3, .int (nI (min N (n / 3 + 1)))), (0, .ref pq), (1, .int (nI N)), (2, .int (nI n))], [.ref (z0 + 3), .ref pq], M52) _
  refine ps_put (l' := [.int (nI N), .ref z0, .ref (z0 + 1), .ref (z0 + 2), .ref (z0 + 3), .null, .null, .int 0]) rfl h56 rfl rfl (fun M61 h62 f63 z64 => ?_)
  have h65 := (f63 z0 (show z0 ≠ pq by omega)).trans h57
  have h66 := (f63 (z0 + 1) (show (z0 + 1) ≠ pq by omega)).trans h58
  have h67 := (f63 (z0 + 2) (show (z0 + 2) ≠ pq by omega)).trans h59
  have h68 := (f63 (z0 + 3) (show (z0 + 3) ≠ pq by omega)).trans h53
  have hF69 := hF60.up (Or.inl (by simp)) f63 (by rw [z64]; exact Nat.le_refl _)
  have tp70 : M61.2.1 = z0 + 4 := by rw [z64]; exact tp55
  show pl _ _ _ (51, [(3, .int (nI (min N (n / 3 + 1)))), (0, .ref pq), (1, .int (nI N)), (2, .int (nI n))], [], M61) _
  refine ps_st (S' := (52, [(3, .int (nI (min N (n / 3 + 1)))), (0, .ref pq), (1, .int (nI N)), (2, .int (nI n))], [.ref pq], M61)) rfl rfl rfl ?_
  refine ps_st (S' := (53, [(3, .int (nI (min N (n / 3 + 1)))), (0, .ref pq), (1, .int (nI N)), (2, .int (nI n))], [.int (nI (min N (n / 3 + 1))), .ref pq], M61)) rfl rfl rfl ?_
  refine ps_newa rfl tp70 (fun M71 i0_53 h72 f73 tp74 => ?_)
  rw [nI_toNat (by omega)] at h72
  have h75 := (f73 pq (show pq ≠ (z0 + 4) by omega)).trans h62
  have h76 := (f73 z0 (show z0 ≠ (z0 + 4) by omega)).trans h65
  have h77 := (f73 (z0 + 1) (show (z0 + 1) ≠ (z0 + 4) by omega)).trans h66
  have h78 := (f73 (z0 + 2) (show (z0 + 2) ≠ (z0 + 4) by omega)).trans h67
  have h79 := (f73 (z0 + 3) (show (z0 + 3) ≠ (z0 + 4) by omega)).trans h68
  have hF80 := hF69.up (Or.inr (by omega)) f73 (by omega)
  show pl _ _ _ (55, [(3, .int (nI (min N (n / 3 + 1)))), (0, .ref pq), (1, .int (nI N)), (2, .int (nI n))], [.ref (z0 + 4), .ref pq], M71) _
  refine ps_put (l' := [.int (nI N), .ref z0, .ref (z0 + 1), .ref (z0 + 2), .ref (z0 + 3), .ref (z0 + 4), .null, .int 0]) rfl h75 rfl rfl (fun M81 h82 f83 z84 => ?_)
  have h85 := (f83 z0 (show z0 ≠ pq by omega)).trans h76
  have h86 := (f83 (z0 + 1) (show (z0 + 1) ≠ pq by omega)).trans h77
  have h87 := (f83 (z0 + 2) (show (z0 + 2) ≠ pq by omega)).trans h78
  have h88 := (f83 (z0 + 3) (show (z0 + 3) ≠ pq by omega)).trans h79
  have h89 := (f83 (z0 + 4) (show (z0 + 4) ≠ pq by omega)).trans h72
  have hF90 := hF80.up (Or.inl (by simp)) f83 (by rw [z84]; exact Nat.le_refl _)
  have tp91 : M81.2.1 = z0 + 5 := by rw [z84]; exact tp74
  show pl _ _ _ (58, [(3, .int (nI (min N (n / 3 + 1)))), (0, .ref pq), (1, .int (nI N)), (2, .int (nI n))], [], M81) _
  refine ps_st (S' := (59, [(3, .int (nI (min N (n / 3 + 1)))), (0, .ref pq), (1, .int (nI N)), (2, .int (nI n))], [.ref pq], M81)) rfl rfl rfl ?_
  refine ps_st (S' := (60, [(3, .int (nI (min N (n / 3 + 1)))), (0, .ref pq), (1, .int (nI N)), (2, .int (nI n))], [.int 0, .ref pq], M81)) rfl rfl rfl ?_
  refine ps_st (S' := (61, [(3, .int (nI (min N (n / 3 + 1)))), (0, .ref pq), (1, .int (nI N)), (2, .int (nI n))], [.int (nI n), .int 0, .ref pq], M81)) rfl rfl rfl ?_
  refine ps_st (S' := (64, [(3, .int (nI (min N (n / 3 + 1)))), (0, .ref pq), (1, .int (nI N)), (2, .int (nI n))], [.int (if 0 < (nI n) then (nI n) else 0), .ref pq], M81)) rfl rfl rfl ?_
  rw [nmax0 (by omega)]
  show pl _ _ _ (_, [(3, .int (nI (min N (n / 3 + 1)))), (0, .ref pq), (1, .int (nI N)), (2, .int (nI n))], [.int (nI (n)), .ref pq], M81) _
  refine ps_newa rfl tp91 (fun M92 i0_64 h93 f94 tp95 => ?_)
  rw [nI_toNat (by omega)] at h93
  have h96 := (f94 pq (show pq ≠ (z0 + 5) by omega)).trans h82
  have h97 := (f94 z0 (show z0 ≠ (z0 + 5) by omega)).trans h85
  have h98 := (f94 (z0 + 1) (show (z0 + 1) ≠ (z0 + 5) by omega)).trans h86
  have h99 := (f94 (z0 + 2) (show (z0 + 2) ≠ (z0 + 5) by omega)).trans h87
  have h100 := (f94 (z0 + 3) (show (z0 + 3) ≠ (z0 + 5) by omega)).trans h88
  have h101 := (f94 (z0 + 4) (show (z0 + 4) ≠ (z0 + 5) by omega)).trans h89
  have hF102 := hF90.up (Or.inr (by omega)) f94 (by omega)
  show pl _ _ _ (66, [(3, .int (nI (min N (n / 3 + 1)))), (0, .ref pq), (1, .int (nI N)), (2, .int (nI n))], [.ref (z0 + 5), .ref pq], M92) _
  refine ps_put (l' := [.int (nI N), .ref z0, .ref (z0 + 1), .ref (z0 + 2), .ref (z0 + 3), .ref (z0 + 4), .ref (z0 + 5), .int 0]) rfl h96 rfl rfl (fun M103 h104 f105 z106 => ?_)
  have h107 := (f105 z0 (show z0 ≠ pq by omega)).trans h97
  have h108 := (f105 (z0 + 1) (show (z0 + 1) ≠ pq by omega)).trans h98
  have h109 := (f105 (z0 + 2) (show (z0 + 2) ≠ pq by omega)).trans h99
  have h110 := (f105 (z0 + 3) (show (z0 + 3) ≠ pq by omega)).trans h100
  have h111 := (f105 (z0 + 4) (show (z0 + 4) ≠ pq by omega)).trans h101
  have h112 := (f105 (z0 + 5) (show (z0 + 5) ≠ pq by omega)).trans h93
  have hF113 := hF102.up (Or.inl (by simp)) f105 (by rw [z106]; exact Nat.le_refl _)
  have tp114 : M103.2.1 = z0 + 6 := by rw [z106]; exact tp95
  show pl _ _ _ (69, [(3, .int (nI (min N (n / 3 + 1)))), (0, .ref pq), (1, .int (nI N)), (2, .int (nI n))], [], M103) _
  exact ps_ret rfl rfl (⟨rfl, by rw [tp0]; exact h104, by rw [tp0]; exact h107, by rw [tp0]; exact h108, by rw [tp0]; exact h109, by rw [tp0]; exact h110, by rw [tp0]; exact h111, by rw [tp0]; exact h112, hF113, by rw [tp0]; exact tp114⟩)
set_option maxHeartbeats 1000000 in
theorem dx_tagOf {g : xe_G} {M : mi_H} {pq q1 q2 q3 q4 q5 q6 hd cc : Nat} {sz : Int32} {F1 : Nat → Int32} {k : Nat} (h_pq : M.1 pq = some (ob 7 [.int sz, .ref q1, .ref q2, .ref q3, .ref q4, .ref q5, .ref q6, .int (nI cc)])) (h_q1 : M.1 q1 = some (ar .int hd F1)) (hh : hd < 1073741824) (hk : k < hd) : pt (mT g) 138 [.ref pq, .int (nI k)] M (fun v M' => (v = some (.int (F1 k)) ∧ fm [] M M')) := by
  refine pt_in (b := mb_138 g) rfl (fun kf => ?_)
  show pl (mT g) kf (mb_138 g).2 (0, [(0, .ref pq), (1, .int (nI k))], [], M) _
  have hF : fm [] M M := fm.rf
  refine ps_st (S' := (1, [(0, .ref pq), (1, .int (nI k))], [.int (nI k)], M)) rfl rfl rfl ?_
  refine ps_if (S1 := (13, [], [], M)) (S2 := (4, [(0, .ref pq), (1, .int (nI k))], [], M)) rfl rfl rfl (fun c_1 => ?_) (fun c_1 => ?_)
  · exact absurd (of_decide_eq_true c_1) (nI_n0 (by omega))
  refine ps_st (S' := (5, [(0, .ref pq), (1, .int (nI k))], [.int (nI k)], M)) rfl rfl rfl ?_
  refine ps_st (S' := (6, [(0, .ref pq), (1, .int (nI k))], [.ref pq, .int (nI k)], M)) rfl rfl rfl ?_
  refine ps_get (S' := (9, [(0, .ref pq), (1, .int (nI k))], [.ref q1, .int (nI k)], M)) rfl h_pq rfl rfl ?_
  refine ps_alen (S' := (10, [(0, .ref pq), (1, .int (nI k))], [.int (nI hd), .int (nI k)], M)) rfl h_q1 rfl ?_
  refine ps_if2 (S1 := (17, [(0, .ref pq), (1, .int (nI k))], [], M)) (S2 := (13, [], [], M)) rfl rfl rfl (fun c_10 => ?_) (fun c_10 => ?_)
  rotate_left
  · exact absurd ((lt_nI (by omega) (by omega)).mpr (by omega)) (of_decide_eq_false c_10)
  refine ps_st (S' := (18, [(0, .ref pq), (1, .int (nI k))], [.ref pq], M)) rfl rfl rfl ?_
  refine ps_get (S' := (21, [(0, .ref pq), (1, .int (nI k))], [.ref q1], M)) rfl h_pq rfl rfl ?_
  refine ps_st (S' := (22, [(0, .ref pq), (1, .int (nI k))], [.int (nI k), .ref q1], M)) rfl rfl rfl ?_
  refine ps_ald (S' := (23, [], [.int (F1 (Int32.toNatClampNeg (nI k)))], M)) rfl h_q1 rfl (fun i0_22 i1_22 => ?_)
  exact ps_ret rfl rfl (⟨by rw [nI_toNat (by omega)], hF⟩)
set_option maxHeartbeats 1000000 in
theorem dx_isWide {g : xe_G} {M : mi_H} {pq q1 q2 q3 q4 q5 q6 hd cc : Nat} {sz : Int32} {F1 : Nat → Int32} {k t : Nat} (h_pq : M.1 pq = some (ob 7 [.int sz, .ref q1, .ref q2, .ref q3, .ref q4, .ref q5, .ref q6, .int (nI cc)])) (h_q1 : M.1 q1 = some (ar .int hd F1)) (hh : hd < 1073741824) (hk : k < hd) (hf : F1 k = nI t) (ht : t < 256) : pt (mT g) 125 [.ref pq, .int (nI k)] M (fun v M' => ((t = 5 ∨ t = 6) ∧ v = some (.int 1) ∧ fm [] M M') ∨ ((¬ (t = 5 ∨ t = 6)) ∧ v = some (.int 0) ∧ fm [] M M')) := by
  refine pt_in (b := mb_125 g) rfl (fun kf => ?_)
  show pl (mT g) kf (mb_125 g).2 (0, [(0, .ref pq), (1, .int (nI k))], [], M) _
  have hF : fm [] M M := fm.rf
  refine ps_st (S' := (1, [(0, .ref pq), (1, .int (nI k))], [.ref pq], M)) rfl rfl rfl ?_
  refine ps_st (S' := (2, [(0, .ref pq), (1, .int (nI k))], [.int (nI k), .ref pq], M)) rfl rfl rfl ?_
  refine pl_call (a := [.ref pq, .int (nI k)]) (rest := []) rfl rfl rfl (dx_tagOf h_pq h_q1 (hh) (hk)) (fun v1 M2 q3 => ?_)
  obtain ⟨rfl, f4⟩ := q3
  have h6 := (f4.1 pq (by simp)).trans h_pq
  have h7 := (f4.1 q1 (by simp)).trans h_q1
  have hF8 := hF.tr f4 (by simp)
  show pl _ _ _ (5, [(0, .ref pq), (1, .int (nI k))], [.int (F1 k)], M2) _
  rw [hf]
  show pl _ _ _ (_, [(0, .ref pq), (1, .int (nI k))], [.int (nI t)], M2) _
  refine ps_st (S' := (6, [(2, .int (nI t)), (0, .ref pq), (1, .int (nI k))], [], M2)) rfl rfl rfl ?_
  refine ps_st (S' := (7, [(2, .int (nI t)), (0, .ref pq), (1, .int (nI k))], [.int (nI t)], M2)) rfl rfl rfl ?_
  refine ps_st (S' := (8, [(2, .int (nI t)), (0, .ref pq), (1, .int (nI k))], [.int 5, .int (nI t)], M2)) rfl rfl rfl ?_
  refine ps_if2 (S1 := (17, [], [], M2)) (S2 := (11, [(2, .int (nI t)), (0, .ref pq), (1, .int (nI k))], [], M2)) rfl rfl rfl (fun c_8 => ?_) (fun c_8 => ?_)
  · have c_8 : (nI t) = 5 := of_decide_eq_true c_8
    have n_8 : t = 5 := (eq_nI (p := t) (n := 5) (by omega) (by decide)).mp c_8
    refine ps_st (S' := (18, [], [.int 1], M2)) rfl rfl rfl ?_
    refine ps_st (S' := (22, [], [.int 1], M2)) rfl rfl rfl ?_
    exact ps_ret rfl rfl (Or.inl ⟨by omega, rfl, hF8⟩)
  · have c_8 : ¬ ((nI t) = 5) := of_decide_eq_false c_8
    have n_8 : ¬ (t = 5) := fun h9 => c_8 ((eq_nI (p := t) (n := 5) (by omega) (by decide)).mpr h9)
    refine ps_st (S' := (12, [(2, .int (nI t)), (0, .ref pq), (1, .int (nI k))], [.int (nI t)], M2)) rfl rfl rfl ?_
    refine ps_st (S' := (14, [(2, .int (nI t)), (0, .ref pq), (1, .int (nI k))], [.int 6, .int (nI t)], M2)) rfl rfl rfl ?_
    refine ps_if2 (S1 := (21, [(2, .int (nI t)), (0, .ref pq), (1, .int (nI k))], [], M2)) (S2 := (17, [], [], M2)) rfl rfl rfl (fun c_14 => ?_) (fun c_14 => ?_)
    · have c_14 : ¬ (nI t) = 6 := of_decide_eq_true c_14
      have n_14 : ¬ (t = 6) := fun h9 => c_14 ((eq_nI (p := t) (n := 6) (by omega) (by decide)).mpr h9)
      refine ps_st (S' := (22, [], [.int 0], M2)) rfl rfl rfl ?_
      exact ps_ret rfl rfl (Or.inr ⟨by omega, rfl, hF8⟩)
    · have c_14 : ¬ (¬ (nI t) = 6) := of_decide_eq_false c_14
      have n_14 : t = 6 := (eq_nI (p := t) (n := 6) (by omega) (by decide)).mp (Decidable.not_not.mp c_14)
      refine ps_st (S' := (18, [], [.int 1], M2)) rfl rfl rfl ?_
      refine ps_st (S' := (22, [], [.int 1], M2)) rfl rfl rfl ?_
      exact ps_ret rfl rfl (Or.inl ⟨by omega, rfl, hF8⟩)
theorem poolC.to {f : Nat → Int32} {n : Nat} {F1 F2 F3 F4 F6 : Nat → Int32} {cc k k' : Nat} {E : List (Nat × Nat)} (h : poolC f n F1 F2 F3 F4 F6 cc k E) (hk : k ≤ k') : poolC f n F1 F2 F3 F4 F6 cc k' E := ⟨fun q hq => ⟨Nat.lt_of_lt_of_le (h.1 q hq).1 hk, (h.1 q hq).2⟩, h.2⟩
set_option maxHeartbeats 1000000 in
theorem dx_takesPool {g : xe_G} {M : mi_H} {r c b vd da n mj : Nat} {f : Nat → Int32} {it ru wa mi fa ic ac aa k1 k2 k3 k4 k5 k6 k7 : Int32} {u1 u6 u7 : Value} (h_r : M.1 r = some (ob 9 [.ref c, .ref b, .ref vd, .int (nI 8), .int it])) (h_b : M.1 b = some (ob 1 [.ref da])) (h_da : M.1 da = some (ar .byte n f)) (h_vd : M.1 vd = some (ob 10 [.int ru, .int wa])) (h_c : M.1 c = some (ob 3 [.ref b, u1, .int mi, .int (nI mj), .int fa, .int ic, u6, u7, .int ac, .int aa, .int k1, .int k2, .int k3, .int k4, .int k5, .int k6, .int k7])) (hn : n ≤ 65540) (h8 : 8 ≤ n) (hj : mj < 65536) (l_r : r < M.2.1) (l_b : b < M.2.1) (l_da : da < M.2.1) (l_vd : vd < M.2.1) (l_c : c < M.2.1) : pt (mT g) 169 [.ref r] M (fun v M' => (∃ (p' cc : Nat) (it' : Int32) (E : List (Nat × Nat)) (F1 F2 F3 F4 F6 : Nat → Int32), (s_pool f n mj = .inr (p', E)) ∧ (poolC f n F1 F2 F3 F4 F6 cc (by2 f 8) E) ∧ (p' ≤ n ∧ cc ≤ p' ∧ 10 ≤ n) ∧ v = some (.int 1) ∧ M'.1 r = some (ob 9 [.ref c, .ref b, .ref vd, .int (nI p'), .int it']) ∧ M'.1 vd = some (ob 10 [.int ru, .int wa]) ∧ M'.1 c = some (ob 3 [.ref b, .ref (M.2.1), .int mi, .int (nI mj), .int fa, .int ic, u6, u7, .int ac, .int aa, .int k1, .int k2, .int k3, .int k4, .int k5, .int k6, .int k7]) ∧ M'.1 (M.2.1) = some (ob 7 [.int (nI (by2 f 8)), .ref (M.2.1 + 1), .ref (M.2.1 + 2), .ref (M.2.1 + 3), .ref (M.2.1 + 4), .ref (M.2.1 + 5), .ref (M.2.1 + 6), .int (nI cc)]) ∧ M'.1 (M.2.1 + 1) = some (ar .int (hldC f n) F1) ∧ M'.1 (M.2.1 + 2) = some (ar .int (hldC f n) F2) ∧ M'.1 (M.2.1 + 3) = some (ar .int (hldC f n) F3) ∧ M'.1 (M.2.1 + 4) = some (ar .int (hldC f n) F4) ∧ M'.1 (M.2.1 + 5) = some (ar .int (hldC f n) (fun _ => 0)) ∧ M'.1 (M.2.1 + 6) = some (ar .char n F6) ∧ gm [r, vd, c] M M' ∧ M'.2.1 = M.2.1 + 7) ∨ (∃ (e : Nat × Nat), (s_pool f n mj = .inl e) ∧ v = some (.int 0) ∧ M'.1 vd = some (ob 10 [.int (nI e.1), .int (nI e.2)]) ∧ gm [r, vd, c] M M' ∧ M.2.1 ≤ M'.2.1)) := by
  refine pt_in (b := mb_169 g) rfl (fun kf => ?_)
  show pl (mT g) kf (mb_169 g).2 (0, [(0, .ref r)], [], M) _
  have hF : gm [r, vd, c] M M := gm.rf
  obtain ⟨z0, tp0⟩ : ∃ z0, M.2.1 = z0 := ⟨_, rfl⟩
  have hb2 := by2_lt f 8
  have L61 : ∀ (kf : Nat) (k p1 cc : Nat) (E : List (Nat × Nat)) (it1 : Int32) (F1 F2 F3 F4 F6 : Nat → Int32) (M1 : mi_H), (M1.1 r = some (ob 9 [.ref c, .ref b, .ref vd, .int (nI p1), .int it1])) → (M1.1 b = some (ob 1 [.ref da])) → (M1.1 da = some (ar .byte n f)) → (M1.1 vd = some (ob 10 [.int ru, .int wa])) → (M1.1 c = some (ob 3 [.ref b, .ref z0, .int mi, .int (nI mj), .int fa, .int ic, u6, u7, .int ac, .int aa, .int k1, .int k2, .int k3, .int k4, .int k5, .int k6, .int k7])) → (M1.1 z0 = some (ob 7 [.int (nI (by2 f 8)), .ref (z0 + 1), .ref (z0 + 2), .ref (z0 + 3), .ref (z0 + 4), .ref (z0 + 5), .ref (z0 + 6), .int (nI cc)])) → (M1.1 (z0 + 1) = some (ar .int (hldC f n) F1)) → (M1.1 (z0 + 2) = some (ar .int (hldC f n) F2)) → (M1.1 (z0 + 3) = some (ar .int (hldC f n) F3)) → (M1.1 (z0 + 4) = some (ar .int (hldC f n) F4)) → (M1.1 (z0 + 5) = some (ar .int (hldC f n) (fun _ => 0))) → (M1.1 (z0 + 6) = some (ar .char n F6)) → (gm [r, vd, c] M M1) → (M1.2.1 = z0 + 7) → (1 ≤ k ∧ 7 + 3 * k ≤ p1 ∧ p1 ≤ n ∧ 10 ≤ n ∧ k ≤ by2 f 8) → (cc ≤ p1) → (¬ by2 f 8 = 0) → (poolC f n F1 F2 F3 F4 F6 cc k E) → (s_ents f n mj (by2 f 8) (by2 f 8 - k) k p1 E = s_ents f n mj (by2 f 8) (by2 f 8 - 1) 1 10 []) → pl (mT g) kf (mb_169 g).2 (61, [(0, .ref r), (2, .ref z0), (3, .int (nI k))], [], M1) (fun v M' => (∃ (p' cc : Nat) (it' : Int32) (E : List (Nat × Nat)) (F1 F2 F3 F4 F6 : Nat → Int32), (s_pool f n mj = .inr (p', E)) ∧ (poolC f n F1 F2 F3 F4 F6 cc (by2 f 8) E) ∧ (p' ≤ n ∧ cc ≤ p' ∧ 10 ≤ n) ∧ v = some (.int 1) ∧ M'.1 r = some (ob 9 [.ref c, .ref b, .ref vd, .int (nI p'), .int it']) ∧ M'.1 vd = some (ob 10 [.int ru, .int wa]) ∧ M'.1 c = some (ob 3 [.ref b, .ref (M.2.1), .int mi, .int (nI mj), .int fa, .int ic, u6, u7, .int ac, .int aa, .int k1, .int k2, .int k3, .int k4, .int k5, .int k6, .int k7]) ∧ M'.1 (M.2.1) = some (ob 7 [.int (nI (by2 f 8)), .ref (M.2.1 + 1), .ref (M.2.1 + 2), .ref (M.2.1 + 3), .ref (M.2.1 + 4), .ref (M.2.1 + 5), .ref (M.2.1 + 6), .int (nI cc)]) ∧ M'.1 (M.2.1 + 1) = some (ar .int (hldC f n) F1) ∧ M'.1 (M.2.1 + 2) = some (ar .int (hldC f n) F2) ∧ M'.1 (M.2.1 + 3) = some (ar .int (hldC f n) F3) ∧ M'.1 (M.2.1 + 4) = some (ar .int (hldC f n) F4) ∧ M'.1 (M.2.1 + 5) = some (ar .int (hldC f n) (fun _ => 0)) ∧ M'.1 (M.2.1 + 6) = some (ar .char n F6) ∧ gm [r, vd, c] M M' ∧ M'.2.1 = M.2.1 + 7) ∨ (∃ (e : Nat × Nat), (s_pool f n mj = .inl e) ∧ v = some (.int 0) ∧ M'.1 vd = some (ob 10 [.int (nI e.1), .int (nI e.2)]) ∧ gm [r, vd, c] M M' ∧ M.2.1 ≤ M'.2.1)) := by
    intro kf
    induction kf with
    | zero => intros; exact pl_0
    | succ kf ih =>
      intro k p1 cc E it1 F1 F2 F3 F4 F6 M1 hl_r hl_b hl_da hl_vd hl_c hl_z0 hl_z0___1 hl_z0___2 hl_z0___3 hl_z0___4 hl_z0___5 hl_z0___6 hF1 tp1 hk1 hc h0 hP hs
      have hb2 := by2_lt f 8
      refine ps_st1 (S' := (62, [(0, .ref r), (2, .ref z0), (3, .int (nI k))], [.int (nI k)], M1)) rfl rfl rfl ?_
      refine ps_st (S' := (63, [(0, .ref r), (2, .ref z0), (3, .int (nI k))], [.ref z0, .int (nI k)], M1)) rfl rfl rfl ?_
      refine ps_get (S' := (66, [(0, .ref r), (2, .ref z0), (3, .int (nI k))], [.int (nI (by2 f 8)), .int (nI k)], M1)) rfl hl_z0 rfl rfl ?_
      refine ps_if2 (S1 := (98, [(0, .ref r), (2, .ref z0), (3, .int (nI k))], [], M1)) (S2 := (69, [(0, .ref r), (2, .ref z0), (3, .int (nI k))], [], M1)) rfl rfl rfl (fun c_66 => ?_) (fun c_66 => ?_)
      · have c_66 : (nI (by2 f 8)) ≤ (nI k) := of_decide_eq_true c_66
        have n_66 : by2 f 8 ≤ k := (le_nI (p := by2 f 8) (n := k) (Nat.lt_trans (by2_lt _ _) (by decide)) (by omega)).mp c_66
        refine ps_st (S' := (99, [(0, .ref r), (2, .ref z0), (3, .int (nI k))], [.int 1], M1)) rfl rfl rfl ?_
        exact ps_ret rfl rfl (Or.inl ⟨p1, cc, _, E, F1, F2, F3, F4, F6, by
            unfold s_pool
            rw [if_neg (by omega), if_neg (by omega), ← hs]
            exact s_ents_0 (by omega), hP.to (by omega), by omega, rfl, by first | exact hl_r | (rw [tp0]; exact hl_r), by first | exact hl_vd | (rw [tp0]; exact hl_vd), by first | exact hl_c | (rw [tp0]; exact hl_c), by first | exact hl_z0 | (rw [tp0]; exact hl_z0), by first | exact hl_z0___1 | (rw [tp0]; exact hl_z0___1), by first | exact hl_z0___2 | (rw [tp0]; exact hl_z0___2), by first | exact hl_z0___3 | (rw [tp0]; exact hl_z0___3), by first | exact hl_z0___4 | (rw [tp0]; exact hl_z0___4), by first | exact hl_z0___5 | (rw [tp0]; exact hl_z0___5), by first | exact hl_z0___6 | (rw [tp0]; exact hl_z0___6), hF1, by rw [tp0]; exact tp1⟩)
      · have c_66 : ¬ ((nI (by2 f 8)) ≤ (nI k)) := of_decide_eq_false c_66
        have n_66 : ¬ (by2 f 8 ≤ k) := fun h9 => c_66 ((le_nI (p := by2 f 8) (n := k) (Nat.lt_trans (by2_lt _ _) (by decide)) (by omega)).mpr h9)
        refine ps_st (S' := (70, [(0, .ref r), (2, .ref z0), (3, .int (nI k))], [.ref r], M1)) rfl rfl rfl ?_
        refine ps_st (S' := (71, [(0, .ref r), (2, .ref z0), (3, .int (nI k))], [.int (nI k), .ref r], M1)) rfl rfl rfl ?_
        refine pl_call (a := [.ref r, .int (nI k)]) (rest := []) rfl rfl rfl (dx_takesEntry hl_r hl_b hl_da hl_vd hl_c hl_z0 hl_z0___1 hl_z0___3 hl_z0___4 hl_z0___2 hl_z0___6 (hn) (by omega) (by unfold dst5; omega) (by unfold hldC; omega) (rfl) (by omega) (by2_lt _ _) (hj) (by omega) (fun h9 => by unfold hldC; omega)) (fun v1 M2 q3 => ?_)
        rcases q3 with q3 | q3 | q3 | q3
        · skip
          obtain ⟨p'4, l5, it'6, q71_s, q71_c, q71_e, rfl, h7, h8, h9, h10, h11, h12, h13, h14, f15⟩ := q3
          have h17 := (f15.1 b (nin8 (ob_ne hl_b hl_r (by decide)) (ob_ne hl_b hl_vd (by decide)) (show b ≠ z0 by omega) (show b ≠ (z0 + 1) by omega) (show b ≠ (z0 + 2) by omega) (show b ≠ (z0 + 3) by omega) (show b ≠ (z0 + 4) by omega) (show b ≠ (z0 + 6) by omega))).trans hl_b
          have h18 := (f15.1 da (nin8 (Ne.symm (ob_ar hl_r hl_da)) (Ne.symm (ob_ar hl_vd hl_da)) (show da ≠ z0 by omega) (show da ≠ (z0 + 1) by omega) (show da ≠ (z0 + 2) by omega) (show da ≠ (z0 + 3) by omega) (show da ≠ (z0 + 4) by omega) (show da ≠ (z0 + 6) by omega))).trans hl_da
          have h19 := (f15.1 c (nin8 (ob_ne hl_c hl_r (by decide)) (ob_ne hl_c hl_vd (by decide)) (show c ≠ z0 by omega) (show c ≠ (z0 + 1) by omega) (show c ≠ (z0 + 2) by omega) (show c ≠ (z0 + 3) by omega) (show c ≠ (z0 + 4) by omega) (show c ≠ (z0 + 6) by omega))).trans hl_c
          have h20 := (f15.1 (z0 + 5) (nin8 (show (z0 + 5) ≠ r by omega) (show (z0 + 5) ≠ vd by omega) (show (z0 + 5) ≠ z0 by omega) (show (z0 + 5) ≠ (z0 + 1) by omega) (show (z0 + 5) ≠ (z0 + 2) by omega) (show (z0 + 5) ≠ (z0 + 3) by omega) (show (z0 + 5) ≠ (z0 + 4) by omega) (show (z0 + 5) ≠ (z0 + 6) by omega))).trans hl_z0___5
          have hF21 := hF1.trf f15 (by intro z hz; simp only [List.mem_cons, List.not_mem_nil, or_false] at hz ⊢; try omega)
          have tp22 : M2.2.1 = z0 + 7 := by rw [f15.2]; exact tp1
          show pl _ _ _ (74, [(0, .ref r), (2, .ref z0), (3, .int (nI k))], [.int 1], M2) _
          refine ps_if (S1 := (79, [(0, .ref r), (2, .ref z0), (3, .int (nI k))], [], M2)) (S2 := (77, [(0, .ref r), (2, .ref z0), (3, .int (nI k))], [], M2)) rfl rfl rfl (fun c_74 => ?_) (fun c_74 => ?_)
          rotate_left
          · exact absurd (by decide) (of_decide_eq_false c_74)
          refine ps_st (S' := (80, [(0, .ref r), (2, .ref z0), (3, .int (nI k))], [.int (nI k)], M2)) rfl rfl rfl ?_
          refine ps_st (S' := (81, [(0, .ref r), (2, .ref z0), (3, .int (nI k))], [.ref z0, .int (nI k)], M2)) rfl rfl rfl ?_
          refine ps_st (S' := (82, [(0, .ref r), (2, .ref z0), (3, .int (nI k))], [.int (nI k), .ref z0, .int (nI k)], M2)) rfl rfl rfl ?_
          refine pl_call (a := [.ref z0, .int (nI k)]) (rest := [.int (nI k)]) rfl rfl rfl (dx_isWide h11 h7 (by unfold hldC; omega) (by unfold hldC; omega) (updq_at) (by1_lt _ _)) (fun v23 M24 q25 => ?_)
          rcases q25 with q25 | q25
          · skip
            obtain ⟨q82_y, rfl, f26⟩ := q25
            have h28 := (f26.1 r (by simp)).trans h9
            have h29 := (f26.1 b (by simp)).trans h17
            have h30 := (f26.1 da (by simp)).trans h18
            have h31 := (f26.1 vd (by simp)).trans h10
            have h32 := (f26.1 c (by simp)).trans h19
            have h33 := (f26.1 z0 (by simp)).trans h11
            have h34 := (f26.1 (z0 + 1) (by simp)).trans h7
            have h35 := (f26.1 (z0 + 2) (by simp)).trans h8
            have h36 := (f26.1 (z0 + 3) (by simp)).trans h12
            have h37 := (f26.1 (z0 + 4) (by simp)).trans h13
            have h38 := (f26.1 (z0 + 5) (by simp)).trans h20
            have h39 := (f26.1 (z0 + 6) (by simp)).trans h14
            have hF40 := hF21.trf f26 (by intro z hz; simp only [List.mem_cons, List.not_mem_nil, or_false] at hz ⊢; try omega)
            have tp41 : M24.2.1 = z0 + 7 := by rw [f26.2]; exact tp22
            show pl _ _ _ (85, [(0, .ref r), (2, .ref z0), (3, .int (nI k))], [.int 1, .int (nI k)], M24) _
            refine ps_if (S1 := (92, [(0, .ref r), (2, .ref z0), (3, .int (nI k))], [.int (nI k)], M24)) (S2 := (88, [(0, .ref r), (2, .ref z0), (3, .int (nI k))], [.int (nI k)], M24)) rfl rfl rfl (fun c_85 => ?_) (fun c_85 => ?_)
            · exact absurd (of_decide_eq_true c_85) (by decide)
            refine ps_st (S' := (89, [(0, .ref r), (2, .ref z0), (3, .int (nI k))], [.int 2, .int (nI k)], M24)) rfl rfl rfl ?_
            refine ps_st (S' := (93, [(0, .ref r), (2, .ref z0)], [.int 2, .int (nI k)], M24)) rfl rfl rfl ?_
            refine ps_st (S' := (94, [(0, .ref r), (2, .ref z0)], [.int ((nI k) + 2)], M24)) rfl rfl rfl ?_
            rw [nI_add1 (p := k) (k := 2) (x := 2) rfl (by omega)]
            show pl _ _ _ (_, [(0, .ref r), (2, .ref z0)], [.int (nI (k + 2))], M24) _
            refine ps_st (S' := (95, [(3, .int (nI (k + 2))), (0, .ref r), (2, .ref z0)], [], M24)) rfl rfl rfl ?_
            refine ps_st (S' := (61, [(0, .ref r), (2, .ref z0), (3, .int (nI (k + 2)))], [], M24)) rfl rfl rfl ?_
            exact ih (k + 2) (p'4) (cc + l5.length) (E ++ [(k, p1)]) (it'6) ((upd F1 k (nI (by1 f p1)))) ((upd F2 k (nI p1))) ((upd F3 k (nI cc))) ((upd F4 k (nI l5.length))) ((wr F6 cc l5)) M24 h28 h29 h30 h31 h32 h33 h34 h35 h36 h37 h38 h39 hF40 (tp41) (by obtain ⟨t1, t2, t3⟩ := s_entry_txt q71_s; omega) (by omega) (by omega) (by
                obtain ⟨t1, t2, t3⟩ := s_entry_txt q71_s
                refine hP.add (k' := k + 2) (p := p1) (by omega) (by omega) (fun j hj => updq_ne hj) (fun j hj => updq_ne hj) (fun j hj => wr_lo hj) ⟨updq_at, updq_at, fun _ => ⟨_, cc, t2, updq_at, updq_at, Nat.le_refl _, fun i hi => wr_in hi⟩, fun h7 => by omega⟩) (by
                rw [← hs, s_ents_step (by omega) q71_s, if_pos (by omega)])
          · skip
            obtain ⟨q82_n, rfl, f42⟩ := q25
            have h44 := (f42.1 r (by simp)).trans h9
            have h45 := (f42.1 b (by simp)).trans h17
            have h46 := (f42.1 da (by simp)).trans h18
            have h47 := (f42.1 vd (by simp)).trans h10
            have h48 := (f42.1 c (by simp)).trans h19
            have h49 := (f42.1 z0 (by simp)).trans h11
            have h50 := (f42.1 (z0 + 1) (by simp)).trans h7
            have h51 := (f42.1 (z0 + 2) (by simp)).trans h8
            have h52 := (f42.1 (z0 + 3) (by simp)).trans h12
            have h53 := (f42.1 (z0 + 4) (by simp)).trans h13
            have h54 := (f42.1 (z0 + 5) (by simp)).trans h20
            have h55 := (f42.1 (z0 + 6) (by simp)).trans h14
            have hF56 := hF21.trf f42 (by intro z hz; simp only [List.mem_cons, List.not_mem_nil, or_false] at hz ⊢; try omega)
            have tp57 : M24.2.1 = z0 + 7 := by rw [f42.2]; exact tp22
            show pl _ _ _ (85, [(0, .ref r), (2, .ref z0), (3, .int (nI k))], [.int 0, .int (nI k)], M24) _
            refine ps_if (S1 := (92, [(0, .ref r), (2, .ref z0), (3, .int (nI k))], [.int (nI k)], M24)) (S2 := (88, [(0, .ref r), (2, .ref z0), (3, .int (nI k))], [.int (nI k)], M24)) rfl rfl rfl (fun c_85 => ?_) (fun c_85 => ?_)
            rotate_left
            · exact absurd (by decide) (of_decide_eq_false c_85)
            refine ps_st (S' := (93, [(0, .ref r), (2, .ref z0)], [.int 1, .int (nI k)], M24)) rfl rfl rfl ?_
            refine ps_st (S' := (94, [(0, .ref r), (2, .ref z0)], [.int ((nI k) + 1)], M24)) rfl rfl rfl ?_
            rw [nI_add1 (p := k) (k := 1) (x := 1) rfl (by omega)]
            show pl _ _ _ (_, [(0, .ref r), (2, .ref z0)], [.int (nI (k + 1))], M24) _
            refine ps_st (S' := (95, [(3, .int (nI (k + 1))), (0, .ref r), (2, .ref z0)], [], M24)) rfl rfl rfl ?_
            refine ps_st (S' := (61, [(0, .ref r), (2, .ref z0), (3, .int (nI (k + 1)))], [], M24)) rfl rfl rfl ?_
            exact ih (k + 1) (p'4) (cc + l5.length) (E ++ [(k, p1)]) (it'6) ((upd F1 k (nI (by1 f p1)))) ((upd F2 k (nI p1))) ((upd F3 k (nI cc))) ((upd F4 k (nI l5.length))) ((wr F6 cc l5)) M24 h44 h45 h46 h47 h48 h49 h50 h51 h52 h53 h54 h55 hF56 (tp57) (by obtain ⟨t1, t2, t3⟩ := s_entry_txt q71_s; omega) (by omega) (by omega) (by
                obtain ⟨t1, t2, t3⟩ := s_entry_txt q71_s
                refine hP.add (k' := k + 1) (p := p1) (by omega) (by omega) (fun j hj => updq_ne hj) (fun j hj => updq_ne hj) (fun j hj => wr_lo hj) ⟨updq_at, updq_at, fun _ => ⟨_, cc, t2, updq_at, updq_at, Nat.le_refl _, fun i hi => wr_in hi⟩, fun h7 => by omega⟩) (by
                rw [← hs, s_ents_step (by omega) q71_s, if_neg (by omega)])
        · skip
          obtain ⟨p'58, it'59, q71_s, q71_e, rfl, h60, h61, h62, h63, h64, h65, h66, h67, f68⟩ := q3
          have h70 := (f68.1 b (nin8 (ob_ne hl_b hl_r (by decide)) (ob_ne hl_b hl_vd (by decide)) (show b ≠ z0 by omega) (show b ≠ (z0 + 1) by omega) (show b ≠ (z0 + 2) by omega) (show b ≠ (z0 + 3) by omega) (show b ≠ (z0 + 4) by omega) (show b ≠ (z0 + 6) by omega))).trans hl_b
          have h71 := (f68.1 da (nin8 (Ne.symm (ob_ar hl_r hl_da)) (Ne.symm (ob_ar hl_vd hl_da)) (show da ≠ z0 by omega) (show da ≠ (z0 + 1) by omega) (show da ≠ (z0 + 2) by omega) (show da ≠ (z0 + 3) by omega) (show da ≠ (z0 + 4) by omega) (show da ≠ (z0 + 6) by omega))).trans hl_da
          have h72 := (f68.1 c (nin8 (ob_ne hl_c hl_r (by decide)) (ob_ne hl_c hl_vd (by decide)) (show c ≠ z0 by omega) (show c ≠ (z0 + 1) by omega) (show c ≠ (z0 + 2) by omega) (show c ≠ (z0 + 3) by omega) (show c ≠ (z0 + 4) by omega) (show c ≠ (z0 + 6) by omega))).trans hl_c
          have h73 := (f68.1 (z0 + 5) (nin8 (show (z0 + 5) ≠ r by omega) (show (z0 + 5) ≠ vd by omega) (show (z0 + 5) ≠ z0 by omega) (show (z0 + 5) ≠ (z0 + 1) by omega) (show (z0 + 5) ≠ (z0 + 2) by omega) (show (z0 + 5) ≠ (z0 + 3) by omega) (show (z0 + 5) ≠ (z0 + 4) by omega) (show (z0 + 5) ≠ (z0 + 6) by omega))).trans hl_z0___5
          have hF74 := hF1.trf f68 (by intro z hz; simp only [List.mem_cons, List.not_mem_nil, or_false] at hz ⊢; try omega)
          have tp75 : M2.2.1 = z0 + 7 := by rw [f68.2]; exact tp1
          show pl _ _ _ (74, [(0, .ref r), (2, .ref z0), (3, .int (nI k))], [.int 1], M2) _
          refine ps_if (S1 := (79, [(0, .ref r), (2, .ref z0), (3, .int (nI k))], [], M2)) (S2 := (77, [(0, .ref r), (2, .ref z0), (3, .int (nI k))], [], M2)) rfl rfl rfl (fun c_74 => ?_) (fun c_74 => ?_)
          rotate_left
          · exact absurd (by decide) (of_decide_eq_false c_74)
          refine ps_st (S' := (80, [(0, .ref r), (2, .ref z0), (3, .int (nI k))], [.int (nI k)], M2)) rfl rfl rfl ?_
          refine ps_st (S' := (81, [(0, .ref r), (2, .ref z0), (3, .int (nI k))], [.ref z0, .int (nI k)], M2)) rfl rfl rfl ?_
          refine ps_st (S' := (82, [(0, .ref r), (2, .ref z0), (3, .int (nI k))], [.int (nI k), .ref z0, .int (nI k)], M2)) rfl rfl rfl ?_
          refine pl_call (a := [.ref z0, .int (nI k)]) (rest := [.int (nI k)]) rfl rfl rfl (dx_isWide h64 h60 (by unfold hldC; omega) (by unfold hldC; omega) (updq_at) (by1_lt _ _)) (fun v76 M77 q78 => ?_)
          rcases q78 with q78 | q78
          · skip
            obtain ⟨q82_y, rfl, f79⟩ := q78
            have h81 := (f79.1 r (by simp)).trans h62
            have h82 := (f79.1 b (by simp)).trans h70
            have h83 := (f79.1 da (by simp)).trans h71
            have h84 := (f79.1 vd (by simp)).trans h63
            have h85 := (f79.1 c (by simp)).trans h72
            have h86 := (f79.1 z0 (by simp)).trans h64
            have h87 := (f79.1 (z0 + 1) (by simp)).trans h60
            have h88 := (f79.1 (z0 + 2) (by simp)).trans h61
            have h89 := (f79.1 (z0 + 3) (by simp)).trans h65
            have h90 := (f79.1 (z0 + 4) (by simp)).trans h66
            have h91 := (f79.1 (z0 + 5) (by simp)).trans h73
            have h92 := (f79.1 (z0 + 6) (by simp)).trans h67
            have hF93 := hF74.trf f79 (by intro z hz; simp only [List.mem_cons, List.not_mem_nil, or_false] at hz ⊢; try omega)
            have tp94 : M77.2.1 = z0 + 7 := by rw [f79.2]; exact tp75
            show pl _ _ _ (85, [(0, .ref r), (2, .ref z0), (3, .int (nI k))], [.int 1, .int (nI k)], M77) _
            refine ps_if (S1 := (92, [(0, .ref r), (2, .ref z0), (3, .int (nI k))], [.int (nI k)], M77)) (S2 := (88, [(0, .ref r), (2, .ref z0), (3, .int (nI k))], [.int (nI k)], M77)) rfl rfl rfl (fun c_85 => ?_) (fun c_85 => ?_)
            · exact absurd (of_decide_eq_true c_85) (by decide)
            refine ps_st (S' := (89, [(0, .ref r), (2, .ref z0), (3, .int (nI k))], [.int 2, .int (nI k)], M77)) rfl rfl rfl ?_
            refine ps_st (S' := (93, [(0, .ref r), (2, .ref z0)], [.int 2, .int (nI k)], M77)) rfl rfl rfl ?_
            refine ps_st (S' := (94, [(0, .ref r), (2, .ref z0)], [.int ((nI k) + 2)], M77)) rfl rfl rfl ?_
            rw [nI_add1 (p := k) (k := 2) (x := 2) rfl (by omega)]
            show pl _ _ _ (_, [(0, .ref r), (2, .ref z0)], [.int (nI (k + 2))], M77) _
            refine ps_st (S' := (95, [(3, .int (nI (k + 2))), (0, .ref r), (2, .ref z0)], [], M77)) rfl rfl rfl ?_
            refine ps_st (S' := (61, [(0, .ref r), (2, .ref z0), (3, .int (nI (k + 2)))], [], M77)) rfl rfl rfl ?_
            exact ih (k + 2) (p'58) (cc) (E ++ [(k, p1)]) (it'59) ((upd F1 k (nI (by1 f p1)))) ((upd F2 k (nI p1))) (F3) (F4) (F6) M77 h81 h82 h83 h84 h85 h86 h87 h88 h89 h90 h91 h92 hF93 (tp94) (by have t1 := s_entry_pl q71_s; omega) (by omega) (by omega) (by
                have t1 := s_entry_pl q71_s
                refine hP.add (k' := k + 2) (p := p1) (by omega) (by omega) (fun j hj => rfl) (fun j hj => rfl) (fun j hj => rfl) ⟨updq_at, updq_at, fun h1 => by omega, fun h7 => by omega⟩) (by
                rw [← hs, s_ents_step (by omega) q71_s, if_pos (by omega)])
          · skip
            obtain ⟨q82_n, rfl, f95⟩ := q78
            have h97 := (f95.1 r (by simp)).trans h62
            have h98 := (f95.1 b (by simp)).trans h70
            have h99 := (f95.1 da (by simp)).trans h71
            have h100 := (f95.1 vd (by simp)).trans h63
            have h101 := (f95.1 c (by simp)).trans h72
            have h102 := (f95.1 z0 (by simp)).trans h64
            have h103 := (f95.1 (z0 + 1) (by simp)).trans h60
            have h104 := (f95.1 (z0 + 2) (by simp)).trans h61
            have h105 := (f95.1 (z0 + 3) (by simp)).trans h65
            have h106 := (f95.1 (z0 + 4) (by simp)).trans h66
            have h107 := (f95.1 (z0 + 5) (by simp)).trans h73
            have h108 := (f95.1 (z0 + 6) (by simp)).trans h67
            have hF109 := hF74.trf f95 (by intro z hz; simp only [List.mem_cons, List.not_mem_nil, or_false] at hz ⊢; try omega)
            have tp110 : M77.2.1 = z0 + 7 := by rw [f95.2]; exact tp75
            show pl _ _ _ (85, [(0, .ref r), (2, .ref z0), (3, .int (nI k))], [.int 0, .int (nI k)], M77) _
            refine ps_if (S1 := (92, [(0, .ref r), (2, .ref z0), (3, .int (nI k))], [.int (nI k)], M77)) (S2 := (88, [(0, .ref r), (2, .ref z0), (3, .int (nI k))], [.int (nI k)], M77)) rfl rfl rfl (fun c_85 => ?_) (fun c_85 => ?_)
            rotate_left
            · exact absurd (by decide) (of_decide_eq_false c_85)
            refine ps_st (S' := (93, [(0, .ref r), (2, .ref z0)], [.int 1, .int (nI k)], M77)) rfl rfl rfl ?_
            refine ps_st (S' := (94, [(0, .ref r), (2, .ref z0)], [.int ((nI k) + 1)], M77)) rfl rfl rfl ?_
            rw [nI_add1 (p := k) (k := 1) (x := 1) rfl (by omega)]
            show pl _ _ _ (_, [(0, .ref r), (2, .ref z0)], [.int (nI (k + 1))], M77) _
            refine ps_st (S' := (95, [(3, .int (nI (k + 1))), (0, .ref r), (2, .ref z0)], [], M77)) rfl rfl rfl ?_
            refine ps_st (S' := (61, [(0, .ref r), (2, .ref z0), (3, .int (nI (k + 1)))], [], M77)) rfl rfl rfl ?_
            exact ih (k + 1) (p'58) (cc) (E ++ [(k, p1)]) (it'59) ((upd F1 k (nI (by1 f p1)))) ((upd F2 k (nI p1))) (F3) (F4) (F6) M77 h97 h98 h99 h100 h101 h102 h103 h104 h105 h106 h107 h108 hF109 (tp110) (by have t1 := s_entry_pl q71_s; omega) (by omega) (by omega) (by
                have t1 := s_entry_pl q71_s
                refine hP.add (k' := k + 1) (p := p1) (by omega) (by omega) (fun j hj => rfl) (fun j hj => rfl) (fun j hj => rfl) ⟨updq_at, updq_at, fun h1 => by omega, fun h7 => by omega⟩) (by
                rw [← hs, s_ents_step (by omega) q71_s, if_neg (by omega)])
        · skip
          obtain ⟨p'111, x112, y113, it'114, q71_s, q71_e, rfl, h115, h116, h117, h118, h119, h120, h121, h122, f123⟩ := q3
          have h125 := (f123.1 b (nin8 (ob_ne hl_b hl_r (by decide)) (ob_ne hl_b hl_vd (by decide)) (show b ≠ z0 by omega) (show b ≠ (z0 + 1) by omega) (show b ≠ (z0 + 2) by omega) (show b ≠ (z0 + 3) by omega) (show b ≠ (z0 + 4) by omega) (show b ≠ (z0 + 6) by omega))).trans hl_b
          have h126 := (f123.1 da (nin8 (Ne.symm (ob_ar hl_r hl_da)) (Ne.symm (ob_ar hl_vd hl_da)) (show da ≠ z0 by omega) (show da ≠ (z0 + 1) by omega) (show da ≠ (z0 + 2) by omega) (show da ≠ (z0 + 3) by omega) (show da ≠ (z0 + 4) by omega) (show da ≠ (z0 + 6) by omega))).trans hl_da
          have h127 := (f123.1 c (nin8 (ob_ne hl_c hl_r (by decide)) (ob_ne hl_c hl_vd (by decide)) (show c ≠ z0 by omega) (show c ≠ (z0 + 1) by omega) (show c ≠ (z0 + 2) by omega) (show c ≠ (z0 + 3) by omega) (show c ≠ (z0 + 4) by omega) (show c ≠ (z0 + 6) by omega))).trans hl_c
          have h128 := (f123.1 (z0 + 5) (nin8 (show (z0 + 5) ≠ r by omega) (show (z0 + 5) ≠ vd by omega) (show (z0 + 5) ≠ z0 by omega) (show (z0 + 5) ≠ (z0 + 1) by omega) (show (z0 + 5) ≠ (z0 + 2) by omega) (show (z0 + 5) ≠ (z0 + 3) by omega) (show (z0 + 5) ≠ (z0 + 4) by omega) (show (z0 + 5) ≠ (z0 + 6) by omega))).trans hl_z0___5
          have hF129 := hF1.trf f123 (by intro z hz; simp only [List.mem_cons, List.not_mem_nil, or_false] at hz ⊢; try omega)
          have tp130 : M2.2.1 = z0 + 7 := by rw [f123.2]; exact tp1
          show pl _ _ _ (74, [(0, .ref r), (2, .ref z0), (3, .int (nI k))], [.int 1], M2) _
          refine ps_if (S1 := (79, [(0, .ref r), (2, .ref z0), (3, .int (nI k))], [], M2)) (S2 := (77, [(0, .ref r), (2, .ref z0), (3, .int (nI k))], [], M2)) rfl rfl rfl (fun c_74 => ?_) (fun c_74 => ?_)
          rotate_left
          · exact absurd (by decide) (of_decide_eq_false c_74)
          refine ps_st (S' := (80, [(0, .ref r), (2, .ref z0), (3, .int (nI k))], [.int (nI k)], M2)) rfl rfl rfl ?_
          refine ps_st (S' := (81, [(0, .ref r), (2, .ref z0), (3, .int (nI k))], [.ref z0, .int (nI k)], M2)) rfl rfl rfl ?_
          refine ps_st (S' := (82, [(0, .ref r), (2, .ref z0), (3, .int (nI k))], [.int (nI k), .ref z0, .int (nI k)], M2)) rfl rfl rfl ?_
          refine pl_call (a := [.ref z0, .int (nI k)]) (rest := [.int (nI k)]) rfl rfl rfl (dx_isWide h119 h115 (by unfold hldC; omega) (by unfold hldC; omega) (updq_at) (by1_lt _ _)) (fun v131 M132 q133 => ?_)
          rcases q133 with q133 | q133
          · skip
            obtain ⟨q82_y, rfl, f134⟩ := q133
            have h136 := (f134.1 r (by simp)).trans h117
            have h137 := (f134.1 b (by simp)).trans h125
            have h138 := (f134.1 da (by simp)).trans h126
            have h139 := (f134.1 vd (by simp)).trans h118
            have h140 := (f134.1 c (by simp)).trans h127
            have h141 := (f134.1 z0 (by simp)).trans h119
            have h142 := (f134.1 (z0 + 1) (by simp)).trans h115
            have h143 := (f134.1 (z0 + 2) (by simp)).trans h116
            have h144 := (f134.1 (z0 + 3) (by simp)).trans h120
            have h145 := (f134.1 (z0 + 4) (by simp)).trans h121
            have h146 := (f134.1 (z0 + 5) (by simp)).trans h128
            have h147 := (f134.1 (z0 + 6) (by simp)).trans h122
            have hF148 := hF129.trf f134 (by intro z hz; simp only [List.mem_cons, List.not_mem_nil, or_false] at hz ⊢; try omega)
            have tp149 : M132.2.1 = z0 + 7 := by rw [f134.2]; exact tp130
            show pl _ _ _ (85, [(0, .ref r), (2, .ref z0), (3, .int (nI k))], [.int 1, .int (nI k)], M132) _
            refine ps_if (S1 := (92, [(0, .ref r), (2, .ref z0), (3, .int (nI k))], [.int (nI k)], M132)) (S2 := (88, [(0, .ref r), (2, .ref z0), (3, .int (nI k))], [.int (nI k)], M132)) rfl rfl rfl (fun c_85 => ?_) (fun c_85 => ?_)
            · exact absurd (of_decide_eq_true c_85) (by decide)
            refine ps_st (S' := (89, [(0, .ref r), (2, .ref z0), (3, .int (nI k))], [.int 2, .int (nI k)], M132)) rfl rfl rfl ?_
            refine ps_st (S' := (93, [(0, .ref r), (2, .ref z0)], [.int 2, .int (nI k)], M132)) rfl rfl rfl ?_
            refine ps_st (S' := (94, [(0, .ref r), (2, .ref z0)], [.int ((nI k) + 2)], M132)) rfl rfl rfl ?_
            rw [nI_add1 (p := k) (k := 2) (x := 2) rfl (by omega)]
            show pl _ _ _ (_, [(0, .ref r), (2, .ref z0)], [.int (nI (k + 2))], M132) _
            refine ps_st (S' := (95, [(3, .int (nI (k + 2))), (0, .ref r), (2, .ref z0)], [], M132)) rfl rfl rfl ?_
            refine ps_st (S' := (61, [(0, .ref r), (2, .ref z0), (3, .int (nI (k + 2)))], [], M132)) rfl rfl rfl ?_
            exact ih (k + 2) (p'111) (cc) (E ++ [(k, p1)]) (it'114) ((upd F1 k (nI (by1 f p1)))) ((upd F2 k (nI p1))) ((upd F3 k (nI x112))) ((upd F4 k (nI y113))) (F6) M132 h136 h137 h138 h139 h140 h141 h142 h143 h144 h145 h146 h147 hF148 (tp149) (by obtain ⟨t1, t2⟩ := s_entry_ix q71_s; omega) (by omega) (by omega) (by
                obtain ⟨t1, t2⟩ := s_entry_ix q71_s
                refine hP.add (k' := k + 2) (p := p1) (by omega) (by omega) (fun j hj => updq_ne hj) (fun j hj => updq_ne hj) (fun j hj => rfl) ⟨updq_at, updq_at, fun h1 => by omega, fun h7 => ⟨_, _, _, t1, updq_at, updq_at⟩⟩) (by
                rw [← hs, s_ents_step (by omega) q71_s, if_pos (by omega)])
          · skip
            obtain ⟨q82_n, rfl, f150⟩ := q133
            have h152 := (f150.1 r (by simp)).trans h117
            have h153 := (f150.1 b (by simp)).trans h125
            have h154 := (f150.1 da (by simp)).trans h126
            have h155 := (f150.1 vd (by simp)).trans h118
            have h156 := (f150.1 c (by simp)).trans h127
            have h157 := (f150.1 z0 (by simp)).trans h119
            have h158 := (f150.1 (z0 + 1) (by simp)).trans h115
            have h159 := (f150.1 (z0 + 2) (by simp)).trans h116
            have h160 := (f150.1 (z0 + 3) (by simp)).trans h120
            have h161 := (f150.1 (z0 + 4) (by simp)).trans h121
            have h162 := (f150.1 (z0 + 5) (by simp)).trans h128
            have h163 := (f150.1 (z0 + 6) (by simp)).trans h122
            have hF164 := hF129.trf f150 (by intro z hz; simp only [List.mem_cons, List.not_mem_nil, or_false] at hz ⊢; try omega)
            have tp165 : M132.2.1 = z0 + 7 := by rw [f150.2]; exact tp130
            show pl _ _ _ (85, [(0, .ref r), (2, .ref z0), (3, .int (nI k))], [.int 0, .int (nI k)], M132) _
            refine ps_if (S1 := (92, [(0, .ref r), (2, .ref z0), (3, .int (nI k))], [.int (nI k)], M132)) (S2 := (88, [(0, .ref r), (2, .ref z0), (3, .int (nI k))], [.int (nI k)], M132)) rfl rfl rfl (fun c_85 => ?_) (fun c_85 => ?_)
            rotate_left
            · exact absurd (by decide) (of_decide_eq_false c_85)
            refine ps_st (S' := (93, [(0, .ref r), (2, .ref z0)], [.int 1, .int (nI k)], M132)) rfl rfl rfl ?_
            refine ps_st (S' := (94, [(0, .ref r), (2, .ref z0)], [.int ((nI k) + 1)], M132)) rfl rfl rfl ?_
            rw [nI_add1 (p := k) (k := 1) (x := 1) rfl (by omega)]
            show pl _ _ _ (_, [(0, .ref r), (2, .ref z0)], [.int (nI (k + 1))], M132) _
            refine ps_st (S' := (95, [(3, .int (nI (k + 1))), (0, .ref r), (2, .ref z0)], [], M132)) rfl rfl rfl ?_
            refine ps_st (S' := (61, [(0, .ref r), (2, .ref z0), (3, .int (nI (k + 1)))], [], M132)) rfl rfl rfl ?_
            exact ih (k + 1) (p'111) (cc) (E ++ [(k, p1)]) (it'114) ((upd F1 k (nI (by1 f p1)))) ((upd F2 k (nI p1))) ((upd F3 k (nI x112))) ((upd F4 k (nI y113))) (F6) M132 h152 h153 h154 h155 h156 h157 h158 h159 h160 h161 h162 h163 hF164 (tp165) (by obtain ⟨t1, t2⟩ := s_entry_ix q71_s; omega) (by omega) (by omega) (by
                obtain ⟨t1, t2⟩ := s_entry_ix q71_s
                refine hP.add (k' := k + 1) (p := p1) (by omega) (by omega) (fun j hj => updq_ne hj) (fun j hj => updq_ne hj) (fun j hj => rfl) ⟨updq_at, updq_at, fun h1 => by omega, fun h7 => ⟨_, _, _, t1, updq_at, updq_at⟩⟩) (by
                rw [← hs, s_ents_step (by omega) q71_s, if_neg (by omega)])
        · skip
          obtain ⟨e166, q71_s, rfl, h167, f168⟩ := q3
          have h170 := (f168.1 b (nin8 (ob_ne hl_b hl_r (by decide)) (ob_ne hl_b hl_vd (by decide)) (show b ≠ z0 by omega) (show b ≠ (z0 + 1) by omega) (show b ≠ (z0 + 2) by omega) (show b ≠ (z0 + 3) by omega) (show b ≠ (z0 + 4) by omega) (show b ≠ (z0 + 6) by omega))).trans hl_b
          have h171 := (f168.1 da (nin8 (Ne.symm (ob_ar hl_r hl_da)) (Ne.symm (ob_ar hl_vd hl_da)) (show da ≠ z0 by omega) (show da ≠ (z0 + 1) by omega) (show da ≠ (z0 + 2) by omega) (show da ≠ (z0 + 3) by omega) (show da ≠ (z0 + 4) by omega) (show da ≠ (z0 + 6) by omega))).trans hl_da
          have h172 := (f168.1 c (nin8 (ob_ne hl_c hl_r (by decide)) (ob_ne hl_c hl_vd (by decide)) (show c ≠ z0 by omega) (show c ≠ (z0 + 1) by omega) (show c ≠ (z0 + 2) by omega) (show c ≠ (z0 + 3) by omega) (show c ≠ (z0 + 4) by omega) (show c ≠ (z0 + 6) by omega))).trans hl_c
          have h173 := (f168.1 (z0 + 5) (nin8 (show (z0 + 5) ≠ r by omega) (show (z0 + 5) ≠ vd by omega) (show (z0 + 5) ≠ z0 by omega) (show (z0 + 5) ≠ (z0 + 1) by omega) (show (z0 + 5) ≠ (z0 + 2) by omega) (show (z0 + 5) ≠ (z0 + 3) by omega) (show (z0 + 5) ≠ (z0 + 4) by omega) (show (z0 + 5) ≠ (z0 + 6) by omega))).trans hl_z0___5
          have hF174 := hF1.trf f168 (by intro z hz; simp only [List.mem_cons, List.not_mem_nil, or_false] at hz ⊢; try omega)
          have tp175 : M2.2.1 = z0 + 7 := by rw [f168.2]; exact tp1
          show pl _ _ _ (74, [(0, .ref r), (2, .ref z0), (3, .int (nI k))], [.int 0], M2) _
          refine ps_if (S1 := (79, [(0, .ref r), (2, .ref z0), (3, .int (nI k))], [], M2)) (S2 := (77, [(0, .ref r), (2, .ref z0), (3, .int (nI k))], [], M2)) rfl rfl rfl (fun c_74 => ?_) (fun c_74 => ?_)
          · exact absurd (of_decide_eq_true c_74) (by decide)
          refine ps_st (S' := (78, [(0, .ref r), (2, .ref z0), (3, .int (nI k))], [.int 0], M2)) rfl rfl rfl ?_
          exact ps_ret rfl rfl (Or.inr ⟨_, by
              unfold s_pool
              rw [if_neg (by omega), if_neg (by omega), ← hs]
              exact s_ents_bad (by omega) q71_s, rfl, h167, hF174, hF174.2⟩)
  refine ps_st (S' := (1, [(0, .ref r)], [.ref r], M)) rfl rfl rfl ?_
  refine ps_get (S' := (4, [(0, .ref r)], [.int (nI 8)], M)) rfl h_r rfl rfl ?_
  refine ps_st (S' := (5, [(1, .int (nI 8)), (0, .ref r)], [], M)) rfl rfl rfl ?_
  refine ps_st (S' := (6, [(1, .int (nI 8)), (0, .ref r)], [.ref r], M)) rfl rfl rfl ?_
  refine ps_st (S' := (7, [(1, .int (nI 8)), (0, .ref r)], [.int 2, .ref r], M)) rfl rfl rfl ?_
  refine pl_call (a := [.ref r, .int 2]) (rest := []) rfl rfl rfl (dx_takes2 h_r h_b h_da h_vd (hn) (by omega)) (fun v176 M177 q178 => ?_)
  rcases q178 with q178 | q178
  · skip
    obtain ⟨q7_ok, rfl, h179, h180, f181⟩ := q178
    have h183 := (f181.1 b (nin2 (ob_ne h_b h_r (by decide)) (ob_ne h_b h_vd (by decide)))).trans h_b
    have h184 := (f181.1 da (nin2 (Ne.symm (ob_ar h_r h_da)) (Ne.symm (ob_ar h_vd h_da)))).trans h_da
    have h185 := (f181.1 c (nin2 (ob_ne h_c h_r (by decide)) (ob_ne h_c h_vd (by decide)))).trans h_c
    have hF186 := hF.trf f181 (by intro z hz; simp only [List.mem_cons, List.not_mem_nil, or_false] at hz ⊢; try omega)
    have tp187 : M177.2.1 = z0 := by rw [f181.2]; exact tp0
    show pl _ _ _ (10, [(1, .int (nI 8)), (0, .ref r)], [.int 1], M177) _
    refine ps_if (S1 := (15, [(1, .int (nI 8)), (0, .ref r)], [], M177)) (S2 := (13, [(1, .int (nI 8)), (0, .ref r)], [], M177)) rfl rfl rfl (fun c_10 => ?_) (fun c_10 => ?_)
    rotate_left
    · exact absurd (by decide) (of_decide_eq_false c_10)
    refine ps_st (S' := (16, [(1, .int (nI 8)), (0, .ref r)], [.ref r], M177)) rfl rfl rfl ?_
    refine ps_get (S' := (19, [(1, .int (nI 8)), (0, .ref r)], [.int (nI (by2 f 8))], M177)) rfl h179 rfl rfl ?_
    refine ps_if (S1 := (32, [(1, .int (nI 8)), (0, .ref r)], [], M177)) (S2 := (22, [(1, .int (nI 8)), (0, .ref r)], [], M177)) rfl rfl rfl (fun c_19 => ?_) (fun c_19 => ?_)
    · have c_19 : ¬ (nI (by2 f 8)) = 0 := of_decide_eq_true c_19
      have n_19 : ¬ (by2 f 8 = 0) := fun h9 => c_19 ((eq_nI (p := by2 f 8) (n := 0) (Nat.lt_trans (by2_lt _ _) (by decide)) (by decide)).mpr h9)
      refine ps_newz rfl tp187 (fun M188 h189 f190 tp191 => ?_)
      have h192 := (f190 r (show r ≠ z0 by omega)).trans h179
      have h193 := (f190 b (show b ≠ z0 by omega)).trans h183
      have h194 := (f190 da (show da ≠ z0 by omega)).trans h184
      have h195 := (f190 vd (show vd ≠ z0 by omega)).trans h180
      have h196 := (f190 c (show c ≠ z0 by omega)).trans h185
      have hF197 := hF186.up (Or.inr (by omega)) f190 (by omega)
      show pl _ _ _ (35, [(1, .int (nI 8)), (0, .ref r)], [.ref z0], M188) _
      refine ps_st (S' := (36, [(1, .int (nI 8)), (0, .ref r)], [.ref z0, .ref z0], M188)) rfl rfl rfl ?_
      refine ps_st (S' := (37, [(1, .int (nI 8)), (0, .ref r)], [.ref r, .ref z0, .ref z0], M188)) rfl rfl rfl ?_
      refine ps_get (S' := (40, [(1, .int (nI 8)), (0, .ref r)], [.int (nI (by2 f 8)), .ref z0, .ref z0], M188)) rfl h192 rfl rfl ?_
      refine ps_st (S' := (41, [(1, .int (nI 8)), (0, .ref r)], [.ref r, .int (nI (by2 f 8)), .ref z0, .ref z0], M188)) rfl rfl rfl ?_
      refine ps_get (S' := (44, [(1, .int (nI 8)), (0, .ref r)], [.ref b, .int (nI (by2 f 8)), .ref z0, .ref z0], M188)) rfl h192 rfl rfl ?_
      refine pl_call (a := [.ref b]) (rest := [.int (nI (by2 f 8)), .ref z0, .ref z0]) rfl rfl rfl (dx_size h193 h194 (hn)) (fun v198 M199 q200 => ?_)
      obtain ⟨rfl, f201⟩ := q200
      have h203 := (f201.1 r (by simp)).trans h192
      have h204 := (f201.1 b (by simp)).trans h193
      have h205 := (f201.1 da (by simp)).trans h194
      have h206 := (f201.1 vd (by simp)).trans h195
      have h207 := (f201.1 c (by simp)).trans h196
      have h208 := (f201.1 z0 (by simp)).trans h189
      have hF209 := hF197.trf f201 (by intro z hz; simp only [List.mem_cons, List.not_mem_nil, or_false] at hz ⊢; try omega)
      have tp210 : M199.2.1 = z0 + 1 := by rw [f201.2]; exact tp191
      show pl _ _ _ (47, [(1, .int (nI 8)), (0, .ref r)], [.int (sp_size n f ), .int (nI (by2 f 8)), .ref z0, .ref z0], M199) _
      refine pl_call (a := [.ref z0, .int (nI (by2 f 8)), .int (sp_size n f )]) (rest := [.ref z0]) rfl rfl rfl (dx_pool h208 (by omega) (by2_lt _ _) (hn)) (fun v211 M212 q213 => ?_)
      obtain ⟨rfl, h214, h215, h216, h217, h218, h219, h220, f221, tp222⟩ := q213
      rw [tp210] at h214 h215 h216 h217 h218 h219 h220 tp222
      have h223 := (f221.1 r (by omega) (nin1 (show r ≠ z0 by omega))).trans h203
      have h224 := (f221.1 b (by omega) (nin1 (show b ≠ z0 by omega))).trans h204
      have h225 := (f221.1 da (by omega) (nin1 (show da ≠ z0 by omega))).trans h205
      have h226 := (f221.1 vd (by omega) (nin1 (show vd ≠ z0 by omega))).trans h206
      have h227 := (f221.1 c (by omega) (nin1 (show c ≠ z0 by omega))).trans h207
      have hF228 := hF209.tr f221 (by intro z hz; simp only [List.mem_cons, List.not_mem_nil, or_false] at hz ⊢; try omega)
      show pl _ _ _ (50, [(1, .int (nI 8)), (0, .ref r)], [.ref z0], M212) _
      refine ps_st (S' := (51, [(2, .ref z0), (1, .int (nI 8)), (0, .ref r)], [], M212)) rfl rfl rfl ?_
      refine ps_st (S' := (52, [(2, .ref z0), (1, .int (nI 8)), (0, .ref r)], [.ref r], M212)) rfl rfl rfl ?_
      refine ps_get (S' := (55, [(2, .ref z0), (1, .int (nI 8)), (0, .ref r)], [.ref c], M212)) rfl h223 rfl rfl ?_
      refine ps_st (S' := (56, [(2, .ref z0), (1, .int (nI 8)), (0, .ref r)], [.ref z0, .ref c], M212)) rfl rfl rfl ?_
      refine ps_put (l' := [.ref b, .ref z0, .int mi, .int (nI mj), .int fa, .int ic, u6, u7, .int ac, .int aa, .int k1, .int k2, .int k3, .int k4, .int k5, .int k6, .int k7]) rfl h227 rfl rfl (fun M229 h230 f231 z232 => ?_)
      have h233 := (f231 r (ob_ne h223 h227 (by decide))).trans h223
      have h234 := (f231 b (ob_ne h224 h227 (by decide))).trans h224
      have h235 := (f231 da (Ne.symm (ob_ar h227 h225))).trans h225
      have h236 := (f231 vd (ob_ne h226 h227 (by decide))).trans h226
      have h237 := (f231 z0 (show z0 ≠ c by omega)).trans h214
      have h238 := (f231 (z0 + 1) (show (z0 + 1) ≠ c by omega)).trans h215
      have h239 := (f231 (z0 + 2) (show (z0 + 2) ≠ c by omega)).trans h216
      have h240 := (f231 (z0 + 3) (show (z0 + 3) ≠ c by omega)).trans h217
      have h241 := (f231 (z0 + 4) (show (z0 + 4) ≠ c by omega)).trans h218
      have h242 := (f231 (z0 + 5) (show (z0 + 5) ≠ c by omega)).trans h219
      have h243 := (f231 (z0 + 6) (show (z0 + 6) ≠ c by omega)).trans h220
      have hF244 := hF228.up (Or.inl (by simp)) f231 (by rw [z232]; exact Nat.le_refl _)
      have tp245 : M229.2.1 = z0 + 7 := by rw [z232]; exact tp222
      show pl _ _ _ (59, [(2, .ref z0), (1, .int (nI 8)), (0, .ref r)], [], M229) _
      refine ps_st (S' := (60, [(2, .ref z0), (1, .int (nI 8)), (0, .ref r)], [.int 1], M229)) rfl rfl rfl ?_
      refine ps_st (S' := (61, [(0, .ref r), (2, .ref z0), (3, .int 1)], [], M229)) rfl rfl rfl ?_
      exact L61 kf (1) (10) (0) ([]) ((nI (by2 f 8))) (fun _ => 0) (fun _ => 0) (fun _ => 0) (fun _ => 0) (fun _ => 0) M229 h233 h234 h235 h236 h230 h237 h238 h239 h240 h241 h242 h243 hF244 (tp245) (by omega) (by omega) (by omega) (⟨fun q hq => by simp at hq, fun j hj => rfl⟩) (rfl)
    · have c_19 : ¬ (¬ (nI (by2 f 8)) = 0) := of_decide_eq_false c_19
      have n_19 : by2 f 8 = 0 := (eq_nI (p := by2 f 8) (n := 0) (Nat.lt_trans (by2_lt _ _) (by decide)) (by decide)).mp (Decidable.not_not.mp c_19)
      refine ps_st (S' := (23, [(1, .int (nI 8)), (0, .ref r)], [.ref r], M177)) rfl rfl rfl ?_
      refine ps_get (S' := (26, [(1, .int (nI 8)), (0, .ref r)], [.ref vd], M177)) rfl h179 rfl rfl ?_
      refine ps_st (S' := (27, [(1, .int (nI 8)), (0, .ref r)], [.int 4, .ref vd], M177)) rfl rfl rfl ?_
      refine ps_st (S' := (28, [(1, .int (nI 8)), (0, .ref r)], [.int (nI 8), .int 4, .ref vd], M177)) rfl rfl rfl ?_
      refine pl_call (a := [.ref vd, .int 4, .int (nI 8)]) (rest := []) rfl rfl rfl (dx_wrong h180) (fun v246 M247 q248 => ?_)
      obtain ⟨rfl, h249, f250⟩ := q248
      have h252 := (f250.1 r (nin1 (ob_ne h179 h180 (by decide)))).trans h179
      have h253 := (f250.1 b (nin1 (ob_ne h183 h180 (by decide)))).trans h183
      have h254 := (f250.1 da (nin1 (Ne.symm (ob_ar h180 h184)))).trans h184
      have h255 := (f250.1 c (nin1 (ob_ne h185 h180 (by decide)))).trans h185
      have hF256 := hF186.trf f250 (by intro z hz; simp only [List.mem_cons, List.not_mem_nil, or_false] at hz ⊢; try omega)
      have tp257 : M247.2.1 = z0 := by rw [f250.2]; exact tp187
      show pl _ _ _ (31, [(1, .int (nI 8)), (0, .ref r)], [.int 0], M247) _
      exact ps_ret rfl rfl (Or.inr ⟨(4, 8), by
          unfold s_pool
          rw [if_neg (by omega), if_pos (by omega)], rfl, h249, hF256, hF256.2⟩)
  · skip
    obtain ⟨q7_no, rfl, h258, h259, f260⟩ := q178
    have h262 := (f260.1 b (nin2 (ob_ne h_b h_r (by decide)) (ob_ne h_b h_vd (by decide)))).trans h_b
    have h263 := (f260.1 da (nin2 (Ne.symm (ob_ar h_r h_da)) (Ne.symm (ob_ar h_vd h_da)))).trans h_da
    have h264 := (f260.1 c (nin2 (ob_ne h_c h_r (by decide)) (ob_ne h_c h_vd (by decide)))).trans h_c
    have hF265 := hF.trf f260 (by intro z hz; simp only [List.mem_cons, List.not_mem_nil, or_false] at hz ⊢; try omega)
    have tp266 : M177.2.1 = z0 := by rw [f260.2]; exact tp0
    show pl _ _ _ (10, [(1, .int (nI 8)), (0, .ref r)], [.int 0], M177) _
    refine ps_if (S1 := (15, [(1, .int (nI 8)), (0, .ref r)], [], M177)) (S2 := (13, [(1, .int (nI 8)), (0, .ref r)], [], M177)) rfl rfl rfl (fun c_10 => ?_) (fun c_10 => ?_)
    · exact absurd (of_decide_eq_true c_10) (by decide)
    refine ps_st (S' := (14, [(1, .int (nI 8)), (0, .ref r)], [.int 0], M177)) rfl rfl rfl ?_
    exact ps_ret rfl rfl (Or.inr ⟨(1, 8), by
        unfold s_pool
        rw [if_pos (by omega)], rfl, h259, hF265, hF265.2⟩)
end
section
/-! what a file's pool holds, as both sides see it (my own text) -/
section VWA
/-- the place of aN entry -/
def lk : List (Nat × Nat) → Nat → Option Nat
  | [], _ => none
  | q :: r, j => if q.1 = j then some q.2 else lk r j
theorem lk_in : ∀ {E : List (Nat × Nat)} {j p : Nat}, lk E j = some p → (j, p) ∈ E := by
  intro E
  induction E with
  | nil => intro j p h; cases h
  | cons q r ih =>
    intro j p h
    unfold lk at h
    split at h
    · rename_i h1
      cases h
      rw [← h1]
      exact List.mem_cons_self
    · exact List.mem_cons_of_mem _ (ih h)
theorem lk_no : ∀ {E : List (Nat × Nat)} {j : Nat}, lk E j = none → ∀ q ∈ E, ¬ q.1 = j := by
  intro E
  induction E with
  | nil => intro j h q hq; cases hq
  | cons q0 r ih =>
    intro j h q hq
    unfold lk at h
    split at h
    · cases h
    · rename_i h1
      rcases List.mem_cons.mp hq with rfl | hq
      · exact h1
      · exact ih h q hq
def tg (f : Nat → Int32) (E : List (Nat × Nat)) (j : Nat) : Nat := match lk E j with
  | some p => by1 f p
  | none => 0
def ixa (f : Nat → Int32) (p : Nat) : Nat := if by1 f p < 7 then 0 else if by1 f p = 15 then by1 f (p + 1) else by2 f (p + 1)
def ixb (f : Nat → Int32) (p : Nat) : Nat := if by1 f p < 7 then 0 else if by1 f p = 15 then by2 f (p + 2) else if by1 f p = 7 ∨ by1 f p = 8 ∨ by1 f p = 16 ∨ by1 f p = 19 ∨ by1 f p = 20 then 0 else by2 f (p + 3)
def fi (f : Nat → Int32) (E : List (Nat × Nat)) (j : Nat) : Nat := match lk E j with
  | some p => ixa f p
  | none => 0
def se (f : Nat → Int32) (E : List (Nat × Nat)) (j : Nat) : Nat := match lk E j with
  | some p => ixb f p
  | none => 0
def txo (s : (Nat × Nat) ⊕ List Nat) : List Nat := match s with
  | .inl _ => []
  | .inr l => l
def tX (f : Nat → Int32) (n : Nat) (E : List (Nat × Nat)) (j : Nat) : List Nat := match lk E j with
  | some p => if by1 f p = 1 then txo (s_utf f n (p + 1)) else []
  | none => []
theorem tg_lt (f : Nat → Int32) (E : List (Nat × Nat)) (j : Nat) : tg f E j < 256 := by
  unfold tg
  split
  · exact by1_lt _ _
  · omega
theorem fi_lt (f : Nat → Int32) (E : List (Nat × Nat)) (j : Nat) : fi f E j < 65536 := by
  unfold fi ixa
  split
  · rename_i p _
    have h1 := by1_lt f (p + 1)
    have h2 := by2_lt f (p + 1)
    repeat' split
    all_goals omega
  · omega
theorem se_lt (f : Nat → Int32) (E : List (Nat × Nat)) (j : Nat) : se f E j < 65536 := by
  unfold se ixb
  split
  · rename_i p _
    have h1 := by2_lt f (p + 2)
    have h2 := by2_lt f (p + 3)
    repeat' split
    all_goals omega
  · omega
theorem tx_no {f : Nat → Int32} {n : Nat} {E : List (Nat × Nat)} {j : Nat} (h : ¬ tg f E j = 1) : tX f n E j = [] := by
  unfold tg at h
  unfold tX
  split
  · rename_i p hp
    rw [hp] at h
    dsimp only at h
    rw [if_neg h]
  · rfl
theorem fi_no {f : Nat → Int32} {E : List (Nat × Nat)} {j : Nat} (h : tg f E j < 7) : fi f E j = 0 := by
  unfold tg at h
  unfold fi ixa
  split
  · rename_i p hp
    rw [hp] at h
    dsimp only at h
    rw [if_pos h]
  · rfl
theorem se_no {f : Nat → Int32} {E : List (Nat × Nat)} {j : Nat} (h : tg f E j < 7) : se f E j = 0 := by
  unfold tg at h
  unfold se ixb
  split
  · rename_i p hp
    rw [hp] at h
    dsimp only at h
    rw [if_pos h]
  · rfl
theorem s_text_ch {f : Nat → Int32} {e : Nat} : ∀ {r p : Nat} {l l' : List Nat}, (∀ c ∈ l, c < 65536) → s_text f e r p l = .inr l' → ∀ c ∈ l', c < 65536 := by
  intro r
  induction r with
  | zero => intro p l l' h hs; cases hs; exact h
  | succ r ih =>
    intro p l l' h hs
    unfold s_text at hs
    split at hs
    · cases hs; exact h
    · split at hs
      · cases hs
      · refine ih (fun c hc => ?_) hs
        rcases List.mem_append.mp hc with hc | hc
        · exact h c hc
        · have : c = u8n f p (u8k f e p) := by simpa using hc
          rw [this]
          exact (u8n_eq _ _ _).2
theorem s_text_len {f : Nat → Int32} {e : Nat} : ∀ {r p : Nat} {l l' : List Nat}, s_text f e r p l = .inr l' → l'.length ≤ l.length + r := by
  intro r
  induction r with
  | zero => intro p l l' hs; cases hs; omega
  | succ r ih =>
    intro p l l' hs
    unfold s_text at hs
    split at hs
    · cases hs; omega
    · split at hs
      · cases hs
      · have := ih hs
        simp only [List.length_append, List.length_cons, List.length_nil] at this
        omega
theorem s_utf_ch {f : Nat → Int32} {n p : Nat} : (∀ c ∈ txo (s_utf f n p), c < 65536) ∧ (txo (s_utf f n p)).length < 65536 := by
  unfold s_utf
  split
  · exact ⟨fun c hc => (by cases hc), by show 0 < 65536; decide⟩
  · split
    · exact ⟨fun c hc => (by cases hc), by show 0 < 65536; decide⟩
    · cases hs : s_text f (p + 2 + by2 f p) (by2 f p) (p + 2) [] with
      | inl w => exact ⟨fun c hc => (by cases hc), by simp [txo]⟩
      | inr l =>
        have h1 := s_text_ch (fun c hc => by cases hc) hs
        have h2 := s_text_len hs
        have h3 := by2_lt f p
        simp only [List.length_nil] at h2
        exact ⟨h1, by show l.length < 65536; omega⟩
theorem tx_len (f : Nat → Int32) (n : Nat) (E : List (Nat × Nat)) (j : Nat) : (tX f n E j).length < 65536 := by
  unfold tX
  split
  · split
    · exact s_utf_ch.2
    · simp
  · simp
theorem tx_ch (f : Nat → Int32) (n : Nat) (E : List (Nat × Nat)) (j i : Nat) : (tX f n E j).getD i 0 < 65536 := by
  have h : ∀ c ∈ tX f n E j, c < 65536 := by
    unfold tX
    split
    · split
      · exact s_utf_ch.1
      · intro c hc; cases hc
    · intro c hc; cases hc
  by_cases hi : i < (tX f n E j).length
  · rw [List.getD_eq_getElem?_getD, List.getElem?_eq_getElem hi, Option.getD_some]
    exact h _ (List.getElem_mem hi)
  · rw [List.getD_eq_getElem?_getD, List.getElem?_eq_none (by omega)]
    decide
/-- texts of literals -/
def ltx (k : Nat) : List Nat := (xe_lt k).2.2.2.map (fun c => c.toInt.toNat)
/-- literals of the class are where they were, each with a text equal to its own -/
def LT (g : xe_G) (M : mi_H) : Prop := ∀ k, k < 15 → g.2.1 k < M.2.1 ∧ ∃ (k' : Nat) (fl : Nat → Option Value), k' < 30 ∧ M.1 (g.2.1 k) = some (.inr (100 + k', fl)) ∧ (xe_lt k').2.2.2 = (xe_lt k).2.2.2
end VWA
section VWB
variable {T : Nat → Option (Nat × mi_B)} {tb : mi_B} {pc k : Nat} {lv : List (Nat × Value)} {st : List Value} {M : mi_H} {S' : mi_S} {Q : Option Value → mi_H → Prop}
theorem ps_reti {chk : Int32 → Bool} {x : Int32} (h1 : tb.1 pc = some (.inr (.inr (r_int chk)))) (hq : Q (some (.int x)) M) : pl T k tb (pc, lv, [.int x], M) Q := by
  refine pl_ret h1 (fun v hv => ?_)
  unfold r_int at hv
  dsimp only at hv
  split at hv
  · cases hv
    exact hq
  · cases hv
theorem ps_slen {a k' L : Nat} {fl : Nat → Option Value} (h1 : tb.1 pc = some (.inl o_slength)) (h : M.1 a = some (.inr (100 + k', fl))) (hL : (xe_lt k').2.2.2.length = L) (e1 : mi_nk tb.2 (pc + 3, lv, .int (nI L) :: st, M) = S') (kk : pl T k tb S' Q) : pl T k tb (pc, lv, .ref a :: st, M) Q := by
  subst e1
  refine pl_st h1 (fun S1 hS => ?_)
  unfold o_slength at hS
  simp only [h] at hS
  split at hS
  · cases hS
    rw [Nat.add_sub_cancel_left, hL]
    exact kk
  · cases hS
theorem xe_ch_all : ∀ k, k < 30 → ∀ j, j < (xe_lt k).2.2.2.length → xe_ch k j = nI ((ltx k).getD j 0) := by
  decide +kernel
theorem ps_schar {a k' k0 j : Nat} {fl : Nat → Option Value} (h1 : tb.1 pc = some (.inl o_scharAt)) (h : M.1 a = some (.inr (100 + k', fl))) (hk : k0 < 30 ∧ (xe_lt k').2.2.2 = (xe_lt k0).2.2.2) (hj : j < 1073741824) (e1 : mi_nk tb.2 (pc + 3, lv, .int (nI ((ltx k0).getD j 0)) :: st, M) = S') (kk : pl T k tb S' Q) : pl T k tb (pc, lv, .int (nI j) :: .ref a :: st, M) Q := by
  subst e1
  refine pl_st h1 (fun S1 hS => ?_)
  unfold o_scharAt at hS
  simp only [h] at hS
  split at hS
  · rename_i hc
    cases hS
    have e := hc.2.2.2.2
    rw [Nat.add_sub_cancel_left, nI_toNat hj] at e ⊢
    rw [hk.2] at e
    have e2 : xe_ch k' j = nI ((ltx k0).getD j 0) := by
      rw [← xe_ch_all k0 hk.1 j e]
      unfold xe_ch
      rw [hk.2]
    rw [e2]
    exact kk
  · cases hS
/-- rows of objects -/
def ro (C : String) (n : Nat) (G : Nat → Value) : mi_C := .inl (.object C, n, fun i => some (G i))
theorem ga_ro {a n : Nat} {C : String} {G : Nat → Value} (h : M.1 a = some (ro C n G)) : mi_ga M a (.object C) = some (n, fun i => some (G i)) := by
  unfold mi_ga
  rw [h]
  simp [ro]
theorem ps_aald {C : String} {a n j : Nat} {G : Nat → Value} {v : Value} (h1 : tb.1 pc = some (.inl (o_ald (.object C)))) (h : M.1 a = some (ro C n G)) (hv : j < 1073741824 ∧ G j = v) (e1 : mi_nk tb.2 (pc + 1, lv, v :: st, M) = S') (kk : pl T k tb S' Q) : pl T k tb (pc, lv, .int (nI j) :: .ref a :: st, M) Q := by
  subst e1
  refine pl_st h1 (fun S1 hS => ?_)
  unfold o_ald at hS
  simp only [ga_ro h] at hS
  split at hS
  · cases hS
  · cases hS
    rw [nI_toNat hv.1, hv.2]
    exact kk
theorem ps_aalen {C : String} {a n : Nat} {G : Nat → Value} (h1 : tb.1 pc = some (.inl (o_alen (.object C)))) (h : M.1 a = some (ro C n G)) (e1 : mi_nk tb.2 (pc + 1, lv, .int (nI n) :: st, M) = S') (kk : pl T k tb S' Q) : pl T k tb (pc, lv, .ref a :: st, M) Q := by
  subst e1
  exact pl_is h1 (S' := (pc + 1, lv, .int (nI n) :: st, M)) (by simp only [o_alen, ga_ro h]; rfl) kk
theorem ps_anew {C : String} {n : Int32} {z : Nat} (h1 : tb.1 pc = some (.inl (o_anew C))) (hz : M.2.1 = z) (kk : ∀ M2 : mi_H, ¬ n < 0 → M2.1 z = some (ro C n.toNatClampNeg (fun _ => .null)) → (∀ y, y ≠ z → M2.1 y = M.1 y) → M2.2.1 = z + 1 → pl T k tb (mi_nk tb.2 (pc + 3, lv, .ref z :: st, M2)) Q) : pl T k tb (pc, lv, .int n :: st, M) Q := by
  subst hz
  refine pl_st h1 (fun S1 hS => ?_)
  unfold o_anew at hS
  dsimp only at hS
  split at hS
  · cases hS
  · rename_i hin
    cases hS
    exact kk _ (fun h9 => hin (Or.inl h9)) (by simp [va_up, ro]) (fun y hy => by simp [va_up, hy]) rfl
def upv (G : Nat → Value) (i : Nat) (v : Value) : Nat → Value := fun j => if j = i then v else G j
theorem ps_aast {C : String} {a n b j : Nat} {G : Nat → Value} (h1 : tb.1 pc = some (.inl (o_aast C))) (h : M.1 a = some (ro C n G)) (hj : j < 1073741824)
    (kk : ∀ M2 : mi_H, j < n → M2.1 a = some (ro C n (upv G j (.ref b))) → (∀ z, z ≠ a → M2.1 z = M.1 z) → M2.2 = M.2 → pl T k tb (mi_nk tb.2 (pc + 1, lv, st, M2)) Q) : pl T k tb (pc, lv, .ref b :: .int (nI j) :: .ref a :: st, M) Q := by
  refine pl_st h1 (fun S1 hS => ?_)
  unfold o_aast at hS
  simp only [ga_ro h] at hS
  split at hS
  · cases hS
  · rename_i hin
    split at hS
    · cases hS
      rw [nI_toNat hj] at hin ⊢
      refine kk _ (Nat.not_le.mp (fun h9 => hin (Or.inr h9))) ?_ (fun z hz => by simp [va_up, hz]) rfl
      have e : va_up (fun i => some (G i)) j (some (Value.ref b)) = fun i => some (upv G j (.ref b) i) := by
        funext i
        unfold va_up upv
        split <;> rfl
      simp only [va_up, if_true, ro]
      rw [← e]
    · cases hS
/-- numbers -/
def aN (x m : Nat) : Nat := x &&& m
theorem nI_an {p k : Nat} {x : Int32} (hx : x = nI k) : nI p &&& x = nI (aN p k) := by
  subst hx
  apply Int32.toBitVec_inj.mp
  apply BitVec.eq_of_toNat_eq
  rw [Int32.toBitVec_and, BitVec.toNat_and, nI_bv, nI_bv, nI_bv]
  simp only [BitVec.toNat_ofNat, aN]
  rw [Nat.and_mod_two_pow]
theorem an_le (x m : Nat) : aN x m ≤ m := Nat.and_le_right
theorem nI_mul1 {p k : Nat} {x y : Int32} (hx : x = nI p) (hy : y = nI k) (h : p * k < 1073741824) : x * y = nI (p * k) := by
  subst hx
  subst hy
  apply Int32.toBitVec_inj.mp
  apply BitVec.eq_of_toNat_eq
  rw [Int32.toBitVec_mul, BitVec.toNat_mul, nI_bv, nI_bv, nI_bv]
  simp only [BitVec.toNat_ofNat]
  rw [← Nat.mul_mod]
theorem nI_sub1 {p k : Nat} {x : Int32} (hx : x = nI k) (h : k ≤ p) (hp : p < 1073741824) : nI p - x = nI (p - k) := by
  subst hx
  apply Int32.toInt_inj.mp
  rw [nI_val (by omega), nI_sub (nI_val (by omega)) (by omega) hp]
  omega
theorem nI_add2 {p k : Nat} {x y : Int32} (hx : x = nI p) (hy : y = nI k) (h : p + k < 1073741824) : x + y = nI (p + k) := by
  subst hx
  exact nI_add1 hy h
theorem m1_ne {x : Nat} (h : x < 1073741824) : ¬ (-1 : Int32) = nI x := fun e => by
  have e2 := congrArg Int32.toInt e
  rw [nI_val h] at e2
  have e3 : (-1 : Int32).toInt = -1 := rfl
  omega
/-- cells that are none of a view's -/
def n7 (S : List Nat) (M : mi_H) : Prop := ∀ a ∈ S, ∃ ci l, M.1 a = some (ob ci l) ∧ ¬ ci = 7 ∧ ci < 100
theorem n7nil : n7 [] M := fun a ha => by cases ha
theorem n7c {S : List Nat} {a ci : Nat} {l : List Value} (h : M.1 a = some (ob ci l)) (hc : ¬ ci = 7 ∧ ci < 100) (hs : n7 S M) : n7 (a :: S) M := fun b hb => by
  rcases List.mem_cons.mp hb with rfl | hb
  · exact ⟨ci, l, h, hc⟩
  · exact hs b hb
/-- the shape of a text as the class notes it -/
def shI (x : Nat) : Int32 := if x = 0 then -1 else nI x
end VWB
section VWC
theorem sub_v {e p : Nat} (he : e < 1000000) (hp : p < 1000000) : (nI e - nI p).toInt = (e : Int) - p := nI_sub (nI_val (by omega)) (by omega) (by omega)
theorem sub_v2 {e p p2 : Nat} (he : e < 1000000) (hp : p + p2 < 1000000) : (nI e - nI p - nI p2).toInt = (e : Int) - (p + p2 : Nat) := by
  have h1 := sub_v (e := e) (p := p) he (by omega)
  have h2 : (nI p2).toInt = p2 := nI_val (by omega)
  rw [Int32.toInt_sub, h1, h2]
  rw [Int.bmod_eq_of_le (by omega) (by omega)]
  omega
theorem sub_lt1 {e p k : Nat} (he : e < 1000000) (hp : p < 1000000) (hk : k < 1000000) : nI e - nI p < nI k ↔ e < p + k := by
  rw [Int32.lt_iff_toInt_lt, sub_v he hp, nI_val (by omega)]
  omega
theorem sub_le1 {e p k : Nat} (he : e < 1000000) (hp : p < 1000000) (hk : k < 1000000) : nI e - nI p ≤ nI k ↔ e ≤ p + k := by
  rw [Int32.le_iff_toInt_le, sub_v he hp, nI_val (by omega)]
  omega
theorem lt_sub1 {e p k : Nat} (he : e < 1000000) (hp : p < 1000000) (hk : k < 2147483648) : nI k < nI e - nI p ↔ k + p < e := by
  rw [Int32.lt_iff_toInt_lt, sub_v he hp, nI_val31 hk]
  omega
theorem le_sub1 {e p k : Nat} (he : e < 1000000) (hp : p < 1000000) (hk : k < 2147483648) : nI k ≤ nI e - nI p ↔ k + p ≤ e := by
  rw [Int32.le_iff_toInt_le, sub_v he hp, nI_val31 hk]
  omega
theorem sub_lt2 {e p p2 k : Nat} (he : e < 1000000) (hp : p + p2 < 1000000) (hk : k < 1000000) : nI e - nI p - nI p2 < nI k ↔ e < p + p2 + k := by
  rw [Int32.lt_iff_toInt_lt, sub_v2 he hp, nI_val (by omega)]
  omega
theorem sub_le2 {e p p2 k : Nat} (he : e < 1000000) (hp : p + p2 < 1000000) (hk : k < 1000000) : nI e - nI p - nI p2 ≤ nI k ↔ e ≤ p + p2 + k := by
  rw [Int32.le_iff_toInt_le, sub_v2 he hp, nI_val (by omega)]
  omega
theorem lt_sub2 {e p p2 k : Nat} (he : e < 1000000) (hp : p + p2 < 1000000) (hk : k < 2147483648) : nI k < nI e - nI p - nI p2 ↔ k + (p + p2) < e := by
  rw [Int32.lt_iff_toInt_lt, sub_v2 he hp, nI_val31 hk]
  omega
theorem le_sub2 {e p p2 k : Nat} (he : e < 1000000) (hp : p + p2 < 1000000) (hk : k < 2147483648) : nI k ≤ nI e - nI p - nI p2 ↔ k + (p + p2) ≤ e := by
  rw [Int32.le_iff_toInt_le, sub_v2 he hp, nI_val31 hk]
  omega
end VWC
end
section
/-! texts: names, types, descriptors (my own text) -/
section TXA
/-- where a class's name ends that begins at p0 (r: characters left, i: place, p: begin of the part) -/
def s_nm (c : Nat → Nat) : Nat → Nat → Nat → Option Nat
  | 0, i, p => if p < i then some i else none
  | r + 1, i, p => if c i = 59 then (if p < i then some i else none) else if c i = 46 ∨ c i = 91 ∨ (c i = 47 ∧ i = p) then none else s_nm c r (i + 1) (if c i = 47 then i + 1 else p)
def s_br (c : Nat → Nat) : Nat → Nat → Nat
  | 0, i => i
  | r + 1, i => if c i = 91 then s_br c r (i + 1) else i
theorem s_nm_le {c : Nat → Nat} : ∀ {r i p x : Nat}, s_nm c r i p = some x → i ≤ x ∧ x ≤ i + r := by
  intro r
  induction r with
  | zero =>
    intro i p x h
    unfold s_nm at h
    split at h
    · cases h; omega
    · cases h
  | succ r ih =>
    intro i p x h
    unfold s_nm at h
    split at h
    · split at h
      · cases h; omega
      · cases h
    · split at h
      · cases h
      · have := ih h
        omega
theorem s_br_le {c : Nat → Nat} : ∀ {r i : Nat}, i ≤ s_br c r i ∧ s_br c r i ≤ i + r := by
  intro r
  induction r with
  | zero => intro i; exact ⟨Nat.le_refl _, Nat.le_refl _⟩
  | succ r ih =>
    intro i
    unfold s_br
    split
    · have := ih (i := i + 1)
      omega
    · omega
def prm (x : Nat) : Prop := x = 66 ∨ x = 67 ∨ x = 68 ∨ x = 70 ∨ x = 73 ∨ x = 74 ∨ x = 83 ∨ x = 90
/-- where the type ends that begins at i -/
def s_ty (c : Nat → Nat) (e i : Nat) : Option Nat :=
  if e ≤ s_br c (e - i) i ∨ 255 < s_br c (e - i) i - i then none else
  if c (s_br c (e - i) i) = 66 ∨ c (s_br c (e - i) i) = 67 ∨ c (s_br c (e - i) i) = 68 ∨ c (s_br c (e - i) i) = 70 ∨ c (s_br c (e - i) i) = 73 ∨ c (s_br c (e - i) i) = 74 ∨ c (s_br c (e - i) i) = 83 ∨ c (s_br c (e - i) i) = 90 then some (s_br c (e - i) i + 1) else
  if c (s_br c (e - i) i) = 76 then (match s_nm c (e - (s_br c (e - i) i + 1)) (s_br c (e - i) i + 1) (s_br c (e - i) i + 1) with
    | none => none
    | some x => if x < e then some (x + 1) else none) else none
theorem s_ty_le {c : Nat → Nat} {e i x : Nat} (h : s_ty c e i = some x) : i < x ∧ x ≤ e := by
  unfold s_ty at h
  have h1 := s_br_le (c := c) (r := e - i) (i := i)
  split at h
  · cases h
  · split at h
    · cases h
      omega
    · split at h
      · split at h
        · cases h
        · rename_i y hy
          have := s_nm_le hy
          split at h
          · cases h
            omega
          · cases h
      · cases h
def pW (x : Nat) : Nat := if x = 74 ∨ x = 68 then 2 else 1
theorem pW_le (x : Nat) : pW x ≤ 2 := by unfold pW; split <;> omega
/-- arguments from i on, w places so far (r: no fewer than the characters left) -/
def s_ar (c : Nat → Nat) (e : Nat) : Nat → Nat → Nat → Option (Nat × Nat)
  | 0, i, w => some (i, w)
  | r + 1, i, w => if w ≤ 255 ∧ i < e ∧ ¬ c i = 41 then (match s_ty c e i with
    | none => none
    | some i' => s_ar c e r i' (w + pW (c i))) else some (i, w)
theorem s_ar_0 {c : Nat → Nat} {e r i w : Nat} (h : ¬ (w ≤ 255 ∧ i < e ∧ ¬ c i = 41)) : s_ar c e r i w = some (i, w) := by
  cases r with
  | zero => rfl
  | succ r => unfold s_ar; rw [if_neg h]
theorem s_ar_fuel {c : Nat → Nat} {e : Nat} : ∀ {r r' i w : Nat}, e - i ≤ r → e - i ≤ r' → s_ar c e r i w = s_ar c e r' i w := by
  intro r
  induction r with
  | zero => intro r' i w h h'; rw [s_ar_0 (by omega), s_ar_0 (by omega)]
  | succ r ih =>
    intro r' i w h h'
    by_cases h1 : w ≤ 255 ∧ i < e ∧ ¬ c i = 41
    · cases r' with
      | zero => omega
      | succ r' =>
        unfold s_ar
        rw [if_pos h1, if_pos h1]
        cases ht : s_ty c e i with
        | none => rfl
        | some x =>
          have := s_ty_le ht
          exact ih (by omega) (by omega)
    · rw [s_ar_0 h1, s_ar_0 h1]
theorem s_ar_step {c : Nat → Nat} {e i w x : Nat} (h : w ≤ 255 ∧ i < e ∧ ¬ c i = 41) (ht : s_ty c e i = some x) : s_ar c e (e - i) i w = s_ar c e (e - x) x (w + pW (c i)) := by
  have := s_ty_le ht
  rw [show e - i = (e - i - 1) + 1 by omega]
  conv => lhs; unfold s_ar
  rw [if_pos h, ht]
  exact s_ar_fuel (by omega) (by omega)
theorem s_ar_bad {c : Nat → Nat} {e i w : Nat} (h : w ≤ 255 ∧ i < e ∧ ¬ c i = 41) (ht : s_ty c e i = none) : s_ar c e (e - i) i w = none := by
  rw [show e - i = (e - i - 1) + 1 by omega]
  unfold s_ar
  rw [if_pos h, ht]
/-- a method's descriptor behind its '(': its shape, 0 if it is none -/
def s_ms (c : Nat → Nat) (e i : Nat) : Nat := match s_ar c e (e - i) i 0 with
  | none => 0
  | some (k, w) => if e ≤ k + 1 ∨ 255 < w then 0 else if c (k + 1) = 86 ∧ k + 2 = e then 4096 + w else if s_ty c e (k + 1) = some e then 4096 + 1024 * pW (c (k + 1)) + w else 0
def s_sh (c : Nat → Nat) (e : Nat) : Nat := if e = 0 then 0 else if c 0 = 40 then s_ms c e 1 else if s_ty c e 0 = some e then pW (c 0) else 0
/-- a text's shape: 0 none, below 4096 a field's, from 4096 on a method's -/
def shN (l : List Nat) : Nat := s_sh (fun i => l.getD i 0) l.length
def angN (l : List Nat) : Nat := if 60 ∈ l ∨ 62 ∈ l then 1 else 0
def unqN (l : List Nat) : Nat := if l = [] ∨ 46 ∈ l ∨ 59 ∈ l ∨ 91 ∈ l ∨ 47 ∈ l then 0 else 1
/-- a text can be that of a Class entry -/
def clsN (l : List Nat) : Nat := if l.getD 0 0 = 91 then (if 0 < shN l ∧ shN l < 4096 then 1 else 0) else if s_nm (fun i => l.getD i 0) l.length 0 0 = some l.length then 1 else 0
end TXA
section TXB
variable {M : mi_H}
/-- the class's pool, as it was read and described: its rows -/
def VF (f : Nat → Int32) (n : Nat) (E : List (Nat × Nat)) (H m : Nat) (F : Nat → Nat → Int32) : Prop :=
  (∀ j, F 1 j = nI (tg f E j)) ∧ (∀ j, H ≤ j → tg f E j = 0) ∧ (∀ j p, lk E j = some p → F 2 j = nI p) ∧
  (∀ j, 7 ≤ tg f E j → F 3 j = nI (fi f E j) ∧ F 4 j = nI (se f E j)) ∧
  (∀ j, tg f E j = 1 → ∃ c, F 3 j = nI c ∧ F 4 j = nI (tX f n E j).length ∧ c + (tX f n E j).length ≤ m ∧ ∀ i, i < (tX f n E j).length → F 6 (c + i) = nI ((tX f n E j).getD i 0))
def VS (f : Nat → Int32) (n : Nat) (E : List (Nat × Nat)) (F : Nat → Nat → Int32) : Prop := ∀ j, tg f E j = 1 → F 5 j = shI (shN (tX f n E j))
def PV (g : xe_G) (f : Nat → Int32) (n N : Nat) (E : List (Nat × Nat)) (q : Nat) (M : mi_H) : Prop :=
  LT g M ∧ ∃ (H m : Nat) (qq : Nat → Nat) (F : Nat → Nat → Int32) (cc : Int32), PL M q (nI N) H m qq F cc ∧ txt H m F cc ∧ (q < M.2.1 ∧ ∀ i, 1 ≤ i → i ≤ 6 → qq i < M.2.1) ∧ (H ≤ 65536 ∧ m ≤ 65540 ∧ N < 65536) ∧ VF f n E H m F ∧ VS f n E F
theorem LT.move {g : xe_G} {M' : mi_H} (h : LT g M) (hz : M.2.1 ≤ M'.2.1) (hm : ∀ z o, z < M.2.1 → M.1 z = some (.inr o) → 100 ≤ o.1 → M'.1 z = M.1 z) : LT g M' := by
  intro k hk
  obtain ⟨h1, k', fl, h2, h3, h4⟩ := h k hk
  exact ⟨by omega, k', fl, h2, (hm _ _ h1 h3 (by show 100 ≤ 100 + k'; omega)).trans h3, h4⟩
theorem PV.move {g : xe_G} {f : Nat → Int32} {n N q : Nat} {E : List (Nat × Nat)} {M' : mi_H} (h : PV g f n N E q M) (hz : M.2.1 ≤ M'.2.1) (hm : ∀ z, z < M.2.1 → (∀ ci l, M.1 z = some (ob ci l) → ci = 7 ∨ 100 ≤ ci) → (∀ o, M.1 z = some (.inr o) → o.1 = 7 ∨ 100 ≤ o.1) → M'.1 z = M.1 z) : PV g f n N E q M' := by
  obtain ⟨hL, H, m, qq, F, cc, ⟨a0, a1, a6⟩, hT, ⟨b0, b1⟩, h3⟩ := h
  have ha : ∀ {z n : Nat} {ty : FieldType} {F : Nat → Int32}, z < M.2.1 → M.1 z = some (ar ty n F) → M'.1 z = some (ar ty n F) := fun hl hc => (hm _ hl (fun ci l h9 => by rw [hc] at h9; cases h9) (fun o h9 => by rw [hc] at h9; cases h9)).trans hc
  have h7 : M'.1 q = M.1 q := hm q b0 (fun ci l h9 => by rw [a0] at h9; simp only [ob, Option.some.injEq, Sum.inr.injEq, Prod.mk.injEq] at h9; exact Or.inl h9.1.symm) (fun o h9 => by rw [a0] at h9; cases h9; exact Or.inl rfl)
  exact ⟨hL.move hz (fun z o hl hc ho => hm z hl (fun ci l h9 => by rw [hc] at h9; cases h9; exact Or.inr ho) (fun o' h9 => by rw [hc] at h9; cases h9; exact Or.inr ho)), H, m, qq, F, cc, ⟨h7.trans a0, fun i h1 h2 => ha (b1 i h1 (by omega)) (a1 i h1 h2), ha (b1 6 (by decide) (by decide)) a6⟩, hT, ⟨by omega, fun i h1 h2 => Nat.lt_of_lt_of_le (b1 i h1 h2) hz⟩, h3⟩
theorem PV.keep {g : xe_G} {f : Nat → Int32} {n N q : Nat} {E : List (Nat × Nat)} {M' : mi_H} {S : List Nat} (h : PV g f n N E q M) (hf : gm S M M') (hs : n7 S M) : PV g f n N E q M' :=
  h.move hf.2 (fun z hl h1 _ => hf.1 z hl (fun hz => by
    obtain ⟨ci, l, e, h2⟩ := hs z hz
    rcases h1 ci l e with h3 | h3 <;> omega))
theorem PV.put {g : xe_G} {f : Nat → Int32} {n N q a ci : Nat} {l : List Value} {E : List (Nat × Nat)} {M' : mi_H} (h : PV g f n N E q M) (ha : M.1 a = some (ob ci l)) (hc : ¬ ci = 7 ∧ ci < 100) (hf : ∀ z, z ≠ a → M'.1 z = M.1 z) (hz : M'.2 = M.2) : PV g f n N E q M' :=
  h.move (by rw [hz]; exact Nat.le_refl _) (fun z hl h1 _ => hf z (fun e => by
    subst e
    rcases h1 ci l ha with h3 | h3 <;> omega))
theorem PV.new {g : xe_G} {f : Nat → Int32} {n N q a : Nat} {E : List (Nat × Nat)} {M' : mi_H} (h : PV g f n N E q M) (ht : M.2.1 = a) (hf : ∀ z, z ≠ a → M'.1 z = M.1 z) (hz : M'.2.1 = a + 1) : PV g f n N E q M' :=
  h.move (by omega) (fun z hl _ _ => hf z (by omega))
theorem nI_rem {a k : Nat} {x : Int32} (hx : x.toInt = k) (hx2 : x = nI k) (hk : 0 < k) (ha : a < 1073741824) : nI a - nI a / x * x = nI (a % k) := by
  rw [ndiv_nI hx hk ha, hx2, nI_mul1 rfl rfl (Nat.lt_of_le_of_lt (Nat.div_mul_le_self a k) ha), nI_sub1 rfl (Nat.div_mul_le_self a k) ha]
  congr 1
  have := Nat.mod_add_div a k
  rw [Nat.mul_comm] at this
  omega
variable {f : Nat → Int32} {n H m j : Nat} {E : List (Nat × Nat)} {F : Nat → Nat → Int32}
theorem VF.tagOf (h : VF f n E H m F) (hH : H ≤ 65536) (hj : j < 65536) : sp_tagOf H m F (nI j) = nI (tg f E j) := by
  unfold sp_tagOf
  rw [if_neg (nI_n0 (by omega))]
  by_cases h1 : j < H
  · rw [if_pos ((lt_nI (by omega) (by omega)).mpr h1), nI_toNat (by omega), h.1]
  · rw [if_neg (fun h9 => h1 ((lt_nI (by omega) (by omega)).mp h9)), h.2.1 j (by omega)]
    rfl
theorem VF.tagPlace {p : Nat} (h : VF f n E H m F) (hH : H ≤ 65536) (hj : j < 65536) (hp : lk E j = some p) (ht : ¬ tg f E j = 0) : sp_tagPlace H m F (nI j) = nI p := by
  unfold sp_tagPlace
  have h1 : j < H := Nat.not_le.mp (fun h9 => ht (h.2.1 j h9))
  rw [if_neg (nI_n0 (by omega)), if_pos ((lt_nI (by omega) (by omega)).mpr h1), nI_toNat (by omega), h.2.2.1 j p hp]
theorem VF.firstIndex (h : VF f n E H m F) (hH : H ≤ 65536) (hj : j < 65536) : sp_firstIndex H m F (nI j) = nI (fi f E j) := by
  unfold sp_firstIndex
  have ht := tg_lt f E j
  rw [if_neg (nI_n0 (by omega))]
  by_cases h1 : H ≤ j
  · rw [if_pos ((le_nI (by omega) (by omega)).mpr h1), fi_no (by rw [h.2.1 j h1]; decide)]
    rfl
  · rw [if_neg (fun h9 => h1 ((le_nI (by omega) (by omega)).mp h9)), nI_toNat (by omega), h.1]
    by_cases h2 : 7 ≤ tg f E j
    · rw [if_pos (show (7 : Int32) ≤ nI (tg f E j) from (le_nI (p := 7) (by decide) (by omega)).mpr h2), (h.2.2.2.1 j h2).1]
    · rw [if_neg (show ¬ (7 : Int32) ≤ nI (tg f E j) from fun h9 => h2 ((le_nI (p := 7) (by decide) (by omega)).mp h9)), fi_no (by omega)]
      rfl
theorem VF.secondIndex (h : VF f n E H m F) (hH : H ≤ 65536) (hj : j < 65536) : sp_secondIndex H m F (nI j) = nI (se f E j) := by
  unfold sp_secondIndex
  have ht := tg_lt f E j
  rw [if_neg (nI_n0 (by omega))]
  by_cases h1 : H ≤ j
  · rw [if_pos ((le_nI (by omega) (by omega)).mpr h1), se_no (by rw [h.2.1 j h1]; decide)]
    rfl
  · rw [if_neg (fun h9 => h1 ((le_nI (by omega) (by omega)).mp h9)), nI_toNat (by omega), h.1]
    by_cases h2 : 7 ≤ tg f E j
    · rw [if_pos (show (7 : Int32) ≤ nI (tg f E j) from (le_nI (p := 7) (by decide) (by omega)).mpr h2), (h.2.2.2.1 j h2).2]
    · rw [if_neg (show ¬ (7 : Int32) ≤ nI (tg f E j) from fun h9 => h2 ((le_nI (p := 7) (by decide) (by omega)).mp h9)), se_no (by omega)]
      rfl
theorem tg1 (f : Nat → Int32) (E : List (Nat × Nat)) (j k : Nat) (hk : k < 1000) : nI (tg f E j) = nI k ↔ tg f E j = k := eq_nI (Nat.lt_trans (tg_lt f E j) (by decide)) (by omega)
theorem tgp {f : Nat → Int32} {E : List (Nat × Nat)} {j : Nat} (k : Nat) {x : Int32} {A B : Int32} (hx : x = nI k) (hk : k < 1000) (h : tg f E j = k) : (if ¬ nI (tg f E j) = x then A else B) = B := by
  subst hx
  rw [if_neg (fun h9 => h9 ((tg1 f E j k hk).mpr h))]
theorem tgn {f : Nat → Int32} {E : List (Nat × Nat)} {j : Nat} (k : Nat) {x : Int32} {A B : Int32} (hx : x = nI k) (hk : k < 1000) (h : ¬ tg f E j = k) : (if ¬ nI (tg f E j) = x then A else B) = A := by
  subst hx
  rw [if_pos (show ¬ nI (tg f E j) = nI k from fun h9 => h ((tg1 f E j k hk).mp h9))]
theorem VF.textLength (h : VF f n E H m F) (hH : H ≤ 65536) (hj : j < 65536) : sp_textLength H m F (nI j) = nI (tX f n E j).length := by
  unfold sp_textLength
  rw [h.tagOf hH hj]
  by_cases h1 : tg f E j = 1
  · obtain ⟨c, a1, a2, -⟩ := h.2.2.2.2 j h1
    rw [tgp (x := 1) 1 rfl (by decide) h1, nI_toNat (by omega), a2]
  · rw [tgn (x := 1) 1 rfl (by decide) h1, tx_no h1]
    rfl
theorem VF.characterAt {i : Nat} (h : VF f n E H m F) (hH : H ≤ 65536) (hm : m ≤ 65540) (hj : j < 65536) (hi : i < 1000000) : sp_characterAt H m F (nI j) (nI i) = if i < (tX f n E j).length then nI ((tX f n E j).getD i 0) else -1 := by
  unfold sp_characterAt
  rw [h.tagOf hH hj]
  have hl := tx_len f n E j
  by_cases h1 : tg f E j = 1
  · obtain ⟨c, a1, a2, a3, a4⟩ := h.2.2.2.2 j h1
    rw [tgp (x := 1) 1 rfl (by decide) h1, if_neg (nI_n0 (by omega)), nI_toNat (by omega), a2, a1]
    by_cases h2 : i < (tX f n E j).length
    · rw [if_pos ((lt_nI (by omega) (by omega)).mpr h2), if_pos h2, nI_add1 rfl (by omega), nI_toNat (by omega), a4 i h2]
    · rw [if_neg (fun h9 => h2 ((lt_nI (by omega) (by omega)).mp h9)), if_neg h2]
  · rw [tgn (x := 1) 1 rfl (by decide) h1, tx_no h1, if_neg (by simp)]
theorem shN_lt (l : List Nat) : shN l < 7000 := by
  unfold shN s_sh s_ms pW
  repeat' split
  all_goals omega
theorem VF.isField (h : VF f n E H m F) (hs : VS f n E F) (hH : H ≤ 65536) (hj : j < 65536) : (0 < shN (tX f n E j) ∧ shN (tX f n E j) < 4096 ∧ sp_isFieldDescriptor H m F (nI j) = 1) ∨ (¬ (0 < shN (tX f n E j) ∧ shN (tX f n E j) < 4096) ∧ sp_isFieldDescriptor H m F (nI j) = 0) := by
  unfold sp_isFieldDescriptor
  rw [h.tagOf hH hj, nI_toNat (by omega)]
  have hl := shN_lt (tX f n E j)
  by_cases h1 : tg f E j = 1
  · rw [tgp (x := 1) 1 rfl (by decide) h1, hs j h1]
    unfold shI
    by_cases h2 : shN (tX f n E j) = 0
    · rw [if_pos h2]
      exact Or.inr ⟨by omega, by decide⟩
    · rw [if_neg h2, if_neg (show ¬ nI (shN (tX f n E j)) ≤ 0 from fun h9 => h2 (by have := (le_nI (n := 0) (by omega) (by decide)).mp h9; omega))]
      by_cases h3 : shN (tX f n E j) < 4096
      · exact Or.inl ⟨by omega, h3, by rw [if_neg (show ¬ (4096 : Int32) ≤ nI (shN (tX f n E j)) from fun h9 => absurd ((le_nI (p := 4096) (by decide) (by omega)).mp h9) (by omega))]⟩
      · exact Or.inr ⟨by omega, by rw [if_pos (show (4096 : Int32) ≤ nI (shN (tX f n E j)) from (le_nI (p := 4096) (by decide) (by omega)).mpr (by omega))]⟩
  · rw [tgn (x := 1) 1 rfl (by decide) h1, tx_no h1]
    exact Or.inr ⟨by decide, rfl⟩
theorem VF.isMeth (h : VF f n E H m F) (hs : VS f n E F) (hH : H ≤ 65536) (hj : j < 65536) : (4096 ≤ shN (tX f n E j) ∧ sp_isMethodDescriptor H m F (nI j) = 1 ∧ F 5 j = nI (shN (tX f n E j))) ∨ (¬ 4096 ≤ shN (tX f n E j) ∧ sp_isMethodDescriptor H m F (nI j) = 0) := by
  unfold sp_isMethodDescriptor
  rw [h.tagOf hH hj, nI_toNat (by omega)]
  have hl := shN_lt (tX f n E j)
  by_cases h1 : tg f E j = 1
  · rw [tgp (x := 1) 1 rfl (by decide) h1, hs j h1]
    unfold shI
    by_cases h2 : shN (tX f n E j) = 0
    · rw [if_pos h2]
      exact Or.inr ⟨by omega, by decide⟩
    · rw [if_neg h2]
      by_cases h3 : 4096 ≤ shN (tX f n E j)
      · exact Or.inl ⟨h3, by rw [if_neg (show ¬ nI (shN (tX f n E j)) < 4096 from fun h9 => absurd ((lt_nI (n := 4096) (by omega) (by decide)).mp h9) (by omega))], rfl⟩
      · exact Or.inr ⟨h3, by rw [if_pos (show nI (shN (tX f n E j)) < 4096 from (lt_nI (n := 4096) (by omega) (by decide)).mpr (by omega))]⟩
  · rw [tgn (x := 1) 1 rfl (by decide) h1, tx_no h1]
    exact Or.inr ⟨by decide, rfl⟩
/-- places of a method's arguments -/
def argN (l : List Nat) : Nat := if 4096 ≤ shN l then shN l % 1024 else 0
def nresN (l : List Nat) : Nat := if 4096 ≤ shN l ∧ shN l < 5120 then 1 else 0
theorem argN_lt (l : List Nat) : argN l < 1024 := by
  unfold argN
  split <;> omega
theorem VF.argPl (h : VF f n E H m F) (hs : VS f n E F) (hH : H ≤ 65536) (hj : j < 65536) : sp_argumentPlaces H m F (nI j) = nI (argN (tX f n E j)) := by
  unfold sp_argumentPlaces argN
  have hl := shN_lt (tX f n E j)
  rcases h.isMeth hs hH hj with ⟨h1, h2, h3⟩ | ⟨h1, h2⟩
  · rw [h2, if_neg (show ¬ (1 : Int32) = 0 by decide), if_pos h1, nI_toNat (by omega), h3, nI_rem (a := shN (tX f n E j)) (x := 1024) (k := 1024) rfl rfl (by decide) (by omega)]
  · rw [h2, if_pos rfl, if_neg h1]
    rfl
theorem VF.noRes (h : VF f n E H m F) (hs : VS f n E F) (hH : H ≤ 65536) (hj : j < 65536) : sp_hasNoResult H m F (nI j) = nI (nresN (tX f n E j)) := by
  unfold sp_hasNoResult nresN
  have hl := shN_lt (tX f n E j)
  rcases h.isMeth hs hH hj with ⟨h1, h2, h3⟩ | ⟨h1, h2⟩
  · rw [h2, if_neg (show ¬ (1 : Int32) = 0 by decide), nI_toNat (by omega), h3, nI_sub1 (x := 4096) (k := 4096) rfl h1 (by omega)]
    by_cases h4 : shN (tX f n E j) < 5120
    · rw [if_neg (show ¬ (1024 : Int32) ≤ nI (shN (tX f n E j) - 4096) from fun h9 => absurd ((le_nI (p := 1024) (by decide) (by omega)).mp h9) (by omega)), if_pos ⟨h1, h4⟩]
      rfl
    · rw [if_pos (show (1024 : Int32) ≤ nI (shN (tX f n E j) - 4096) from (le_nI (p := 1024) (by decide) (by omega)).mpr (by omega)), if_neg (by omega)]
      rfl
  · rw [h2, if_pos rfl, if_neg (by omega)]
    rfl
/-- a Class entry, and no array's -/
def plnN (f : Nat → Int32) (n : Nat) (E : List (Nat × Nat)) (j : Nat) : Nat := if tg f E j = 7 ∧ ¬ (tX f n E (fi f E j)).getD 0 0 = 91 then 1 else 0
theorem VF.plain (h : VF f n E H m F) (hH : H ≤ 65536) (hm : m ≤ 65540) (hj : j < 65536) : sp_isPlainClass H m F (nI j) = nI (plnN f n E j) := by
  unfold sp_isPlainClass plnN
  rw [h.tagOf hH hj]
  by_cases h1 : tg f E j = 7
  · have h3 := tx_ch f n E (fi f E j) 0
    rw [tgp (x := 7) 7 rfl (by decide) h1, nI_toNat (by omega), (h.2.2.2.1 j (by omega)).1]
    have := h.characterAt (i := 0) hH hm (fi_lt f E j) (by decide)
    have e : (nI 0 : Int32) = 0 := rfl
    rw [e] at this
    rw [this]
    by_cases h2 : 0 < (tX f n E (fi f E j)).length
    · rw [if_pos h2]
      by_cases h4 : (tX f n E (fi f E j)).getD 0 0 = 91
      · rw [if_pos (show nI ((tX f n E (fi f E j)).getD 0 0) = 91 from (eq_nI (n := 91) (by omega) (by decide)).mpr h4), if_neg (fun h9 => h9.2 h4)]
        rfl
      · rw [if_neg (show ¬ nI ((tX f n E (fi f E j)).getD 0 0) = 91 from fun h9 => h4 ((eq_nI (n := 91) (by omega) (by decide)).mp h9)), if_pos ⟨h1, h4⟩]
        rfl
    · have hz : ¬ (tX f n E (fi f E j)).getD 0 0 = 91 := by
        rw [List.getD_eq_getElem?_getD, List.getElem?_eq_none (by omega)]
        decide
      rw [if_neg h2, if_neg (show ¬ (-1 : Int32) = 91 by decide), if_pos ⟨h1, hz⟩]
      rfl
  · rw [tgn (x := 7) 7 rfl (by decide) h1, if_neg (fun h9 => h1 h9.1)]
    rfl
end TXB
section TXC
def fldN (l : List Nat) : Nat := if 0 < shN l ∧ shN l < 4096 then 1 else 0
def mthN (l : List Nat) : Nat := if 4096 ≤ shN l then 1 else 0
def eqN (l l' : List Nat) : Nat := if l = l' then 1 else 0
def smN (f : Nat → Int32) (n : Nat) (E : List (Nat × Nat)) (j k : Nat) : Nat := if j = k ∨ (tg f E j = 1 ∧ tg f E k = 1 ∧ tX f n E j = tX f n E k) then 1 else 0
theorem VF.fld {f : Nat → Int32} {n H m j : Nat} {E : List (Nat × Nat)} {F : Nat → Nat → Int32} (h : VF f n E H m F) (hs : VS f n E F) (hH : H ≤ 65536) (hj : j < 65536) : sp_isFieldDescriptor H m F (nI j) = nI (fldN (tX f n E j)) := by
  unfold fldN
  rcases h.isField hs hH hj with ⟨e1, e2, e3⟩ | ⟨e1, e3⟩
  · rw [e3, if_pos ⟨e1, e2⟩]
    rfl
  · rw [e3, if_neg e1]
    rfl
theorem VF.mth {f : Nat → Int32} {n H m j : Nat} {E : List (Nat × Nat)} {F : Nat → Nat → Int32} (h : VF f n E H m F) (hs : VS f n E F) (hH : H ≤ 65536) (hj : j < 65536) : sp_isMethodDescriptor H m F (nI j) = nI (mthN (tX f n E j)) := by
  unfold mthN
  rcases h.isMeth hs hH hj with ⟨e1, e3, -⟩ | ⟨e1, e3⟩
  · rw [e3, if_pos e1]
    rfl
  · rw [e3, if_neg e1]
    rfl
theorem le1_fld (l : List Nat) : fldN l < 2 := by unfold fldN; split <;> decide
theorem le1_mth (l : List Nat) : mthN l < 2 := by unfold mthN; split <;> decide
theorem le1_eq (l l' : List Nat) : eqN l l' < 2 := by unfold eqN; split <;> decide
theorem le1_sm (f : Nat → Int32) (n : Nat) (E : List (Nat × Nat)) (j k : Nat) : smN f n E j k < 2 := by unfold smN; split <;> decide
theorem le1_ang (l : List Nat) : angN l < 2 := by unfold angN; split <;> decide
theorem le1_unq (l : List Nat) : unqN l < 2 := by unfold unqN; split <;> decide
theorem le1_cls (l : List Nat) : clsN l < 2 := by unfold clsN; repeat' split
                                                  all_goals decide
theorem le1_nres (l : List Nat) : nresN l < 2 := by unfold nresN; split <;> decide
theorem le1_pln (f : Nat → Int32) (n : Nat) (E : List (Nat × Nat)) (j : Nat) : plnN f n E j < 2 := by unfold plnN; split <;> decide
theorem gd_mem {l : List Nat} {i : Nat} (h : i < l.length) : l.getD i 0 ∈ l := by
  rw [List.getD_eq_getElem?_getD, List.getElem?_eq_getElem h, Option.getD_some]
  exact List.getElem_mem h
theorem gd_nil {l : List Nat} {x : Nat} (h : ¬ 0 < l.length) (hx : ¬ x = 0) : ¬ l.getD 0 0 = x := by
  rw [List.getD_eq_getElem?_getD, List.getElem?_eq_none (by omega)]
  exact fun e => hx e.symm
theorem gd_of {l : List Nat} {x : Nat} (h : x ∈ l) : ∃ i, i < l.length ∧ l.getD i 0 = x := by
  obtain ⟨i, hi, e⟩ := List.getElem_of_mem h
  exact ⟨i, hi, by rw [List.getD_eq_getElem?_getD, List.getElem?_eq_getElem hi, Option.getD_some, e]⟩
theorem gd_ext {l l' : List Nat} (h : l.length = l'.length) (he : ∀ i, i < l.length → l.getD i 0 = l'.getD i 0) : l = l' := by
  refine List.ext_getElem h (fun i h1 h2 => ?_)
  have := he i h1
  rw [List.getD_eq_getElem?_getD, List.getD_eq_getElem?_getD, List.getElem?_eq_getElem h1, List.getElem?_eq_getElem h2] at this
  exact this
theorem ang_in {l : List Nat} {i : Nat} (hi : i < l.length) (h : l.getD i 0 = 60 ∨ l.getD i 0 = 62) : angN l = 1 := by
  unfold angN
  have := gd_mem hi
  rw [if_pos]
  rcases h with h | h <;> rw [h] at this
  · exact Or.inl this
  · exact Or.inr this
theorem ang_no {l : List Nat} (h : ∀ i, i < l.length → ¬ l.getD i 0 = 60 ∧ ¬ l.getD i 0 = 62) : angN l = 0 := by
  unfold angN
  rw [if_neg]
  rintro (h1 | h1) <;> obtain ⟨i, hi, e⟩ := gd_of h1
  · exact (h i hi).1 e
  · exact (h i hi).2 e
theorem unq_no {l : List Nat} {i : Nat} (hi : i < l.length) (h : l.getD i 0 = 46 ∨ l.getD i 0 = 59 ∨ l.getD i 0 = 91 ∨ l.getD i 0 = 47) : unqN l = 0 := by
  unfold unqN
  have := gd_mem hi
  rw [if_pos]
  rcases h with h | h | h | h <;> rw [h] at this
  · exact Or.inr (Or.inl this)
  · exact Or.inr (Or.inr (Or.inl this))
  · exact Or.inr (Or.inr (Or.inr (Or.inl this)))
  · exact Or.inr (Or.inr (Or.inr (Or.inr this)))
theorem unq_nil {l : List Nat} (h : ¬ 0 < l.length) : unqN l = 0 := by
  unfold unqN
  rw [if_pos (Or.inl (List.eq_nil_of_length_eq_zero (by omega)))]
theorem unq_in {l : List Nat} (h0 : 0 < l.length) (h : ∀ i, i < l.length → ¬ l.getD i 0 = 46 ∧ ¬ l.getD i 0 = 59 ∧ ¬ l.getD i 0 = 91 ∧ ¬ l.getD i 0 = 47) : unqN l = 1 := by
  unfold unqN
  rw [if_neg]
  rintro (h1 | h1 | h1 | h1 | h1)
  · rw [h1] at h0
    exact absurd h0 (by decide)
  all_goals obtain ⟨i, hi, e⟩ := gd_of h1
  · exact (h i hi).1 e
  · exact (h i hi).2.1 e
  · exact (h i hi).2.2.1 e
  · exact (h i hi).2.2.2 e
theorem ltx_ne : ∀ k, k < 30 → ¬ ltx k = [] := by decide +kernel
theorem ltx_ch : ∀ k, k < 15 → ∀ i, i < 30 → (ltx k).getD i 0 < 65536 ∧ (ltx k).length < 30 := by decide +kernel
end TXC
end
section
/-! names, types, descriptors on the class's side (laid by wip/p4/d6.py) -/
theorem s_nm_st {c : Nat → Nat} {e i p : Nat} (h : i < e) : s_nm c (e - i) i p = if c i = 59 then (if p < i then some i else none) else if c i = 46 ∨ c i = 91 ∨ (c i = 47 ∧ i = p) then none else s_nm c (e - (i + 1)) (i + 1) (if c i = 47 then i + 1 else p) := by
  rw [show e - i = (e - (i + 1)) + 1 by omega]
  rfl
theorem s_nm_en {c : Nat → Nat} {e i p : Nat} (h : e ≤ i) : s_nm c (e - i) i p = if p < i then some i else none := by
  rw [show e - i = 0 by omega]
  rfl
theorem s_br_st {c : Nat → Nat} {e i : Nat} (h : i < e) : s_br c (e - i) i = if c i = 91 then s_br c (e - (i + 1)) (i + 1) else i := by
  rw [show e - i = (e - (i + 1)) + 1 by omega]
  rfl
theorem s_br_en {c : Nat → Nat} {e i : Nat} (h : e ≤ i) : s_br c (e - i) i = i := by
  rw [show e - i = 0 by omega]
  rfl
set_option maxHeartbeats 1000000 in
theorem dy_nameEnd {g : xe_G} {M : mi_H} {q H m : Nat} {qq : Nat → Nat} {F : Nat → Nat → Int32} {sz cc : Int32} {c : Nat → Nat} {B e : Nat} {i0 : Nat}  (hP : PL M q sz H m qq F cc) (hm : B + e ≤ m ∧ m ≤ 65540) (hc : ∀ i, i < e → F 6 (B + i) = nI (c i) ∧ c i < 65536) (hi : i0 ≤ e) : pt (mT g) 127 [.ref q, .int (nI (B + i0)), .int (nI (B + e))] M (fun v M' => ((s_nm c (e - i0) i0 i0 = none) ∧ v = some (.int (-1)) ∧ M = M') ∨ (∃ (x : Nat), (s_nm c (e - i0) i0 i0 = some x) ∧ v = some (.int (nI (B + x))) ∧ M = M')) := by
  refine pt_in (b := mb_127 g) rfl (fun kf => ?_)
  show pl (mT g) kf (mb_127 g).2 (0, [(0, .ref q), (1, .int (nI (B + i0))), (2, .int (nI (B + e)))], [], M) _
  have h_q := hP.1
  have h_qq_1 := hP.2.1 1 (by decide) (by decide)
  have h_qq_2 := hP.2.1 2 (by decide) (by decide)
  have h_qq_3 := hP.2.1 3 (by decide) (by decide)
  have h_qq_4 := hP.2.1 4 (by decide) (by decide)
  have h_qq_5 := hP.2.1 5 (by decide) (by decide)
  have h_qq_6 := hP.2.2
  have LL : ∀ (kf : Nat), (∀ (i p : Nat), (i0 ≤ i ∧ i ≤ e ∧ p ≤ i) → (s_nm c (e - i) i p = s_nm c (e - i0) i0 i0) →  pl (mT g) kf (mb_127 g).2 (5, [(0, .ref q), (2, .int (nI (B + e))), (3, .int (nI (B + p))), (4, .int (nI (B + i)))], [], M) (fun v M' => ((s_nm c (e - i0) i0 i0 = none) ∧ v = some (.int (-1)) ∧ M = M') ∨ (∃ (x : Nat), (s_nm c (e - i0) i0 i0 = some x) ∧ v = some (.int (nI (B + x))) ∧ M = M'))) := by
    intro kf
    induction kf with
    | zero => exact (by intros; exact pl_0)
    | succ kf ih =>
      intro i p hi2 hs
      refine ps_st1 (S' := (7, [(0, .ref q), (2, .int (nI (B + e))), (3, .int (nI (B + p))), (4, .int (nI (B + i)))], [.int (nI (B + i))], M)) rfl rfl rfl ?_
      refine ps_st (S' := (8, [(0, .ref q), (2, .int (nI (B + e))), (3, .int (nI (B + p))), (4, .int (nI (B + i)))], [.int (nI (B + e)), .int (nI (B + i))], M)) rfl rfl rfl ?_
      refine ps_if2 (S1 := (87, [(0, .ref q), (2, .int (nI (B + e))), (3, .int (nI (B + p))), (4, .int (nI (B + i)))], [], M)) (S2 := (11, [(0, .ref q), (2, .int (nI (B + e))), (3, .int (nI (B + p))), (4, .int (nI (B + i)))], [], M)) rfl rfl rfl (fun c_8 => ?_) (fun c_8 => ?_)
      · have c_8 : (nI (B + e)) ≤ (nI (B + i)) := of_decide_eq_true c_8
        have n_8 : B + e ≤ B + i := (le_nI (p := B + e) (n := B + i) (by omega) (by omega)).mp c_8
        refine ps_st (S' := (88, [(0, .ref q), (2, .int (nI (B + e))), (3, .int (nI (B + p))), (4, .int (nI (B + i)))], [.int (nI (B + e))], M)) rfl rfl rfl ?_
        refine ps_st (S' := (89, [(0, .ref q), (2, .int (nI (B + e))), (3, .int (nI (B + p))), (4, .int (nI (B + i)))], [.int (nI (B + p)), .int (nI (B + e))], M)) rfl rfl rfl ?_
        refine ps_if2 (S1 := (96, [(0, .ref q), (2, .int (nI (B + e))), (3, .int (nI (B + p))), (4, .int (nI (B + i)))], [], M)) (S2 := (92, [(0, .ref q), (2, .int (nI (B + e))), (3, .int (nI (B + p))), (4, .int (nI (B + i)))], [], M)) rfl rfl rfl (fun c_89 => ?_) (fun c_89 => ?_)
        · have c_89 : (nI (B + e)) ≤ (nI (B + p)) := of_decide_eq_true c_89
          have n_89 : B + e ≤ B + p := (le_nI (p := B + e) (n := B + p) (by omega) (by omega)).mp c_89
          refine ps_st (S' := (97, [], [.int (-1)], M)) rfl rfl rfl ?_
          exact ps_ret rfl rfl (Or.inl ⟨by
              rw [← hs, s_nm_en (by omega)]
              repeat' split
              all_goals first | rfl | (exfalso; omega), rfl, rfl⟩)
        · have c_89 : ¬ ((nI (B + e)) ≤ (nI (B + p))) := of_decide_eq_false c_89
          have n_89 : ¬ (B + e ≤ B + p) := fun h9 => c_89 ((le_nI (p := B + e) (n := B + p) (by omega) (by omega)).mpr h9)
          refine ps_st (S' := (93, [(0, .ref q), (2, .int (nI (B + e))), (3, .int (nI (B + p))), (4, .int (nI (B + i)))], [.int (nI (B + e))], M)) rfl rfl rfl ?_
          refine ps_st (S' := (97, [], [.int (nI (B + e))], M)) rfl rfl rfl ?_
          exact ps_reti rfl (Or.inr ⟨i, by
              rw [← hs, s_nm_en (by omega)]
              repeat' split
              all_goals first | rfl | (exfalso; omega), by rw [show e = i by omega], rfl⟩)
      · have c_8 : ¬ ((nI (B + e)) ≤ (nI (B + i))) := of_decide_eq_false c_8
        have n_8 : ¬ (B + e ≤ B + i) := fun h9 => c_8 ((le_nI (p := B + e) (n := B + i) (by omega) (by omega)).mpr h9)
        refine ps_st (S' := (12, [(0, .ref q), (2, .int (nI (B + e))), (3, .int (nI (B + p))), (4, .int (nI (B + i)))], [.ref q], M)) rfl rfl rfl ?_
        refine ps_get (S' := (15, [(0, .ref q), (2, .int (nI (B + e))), (3, .int (nI (B + p))), (4, .int (nI (B + i)))], [.ref (qq 6)], M)) rfl h_q rfl rfl ?_
        refine ps_st (S' := (17, [(0, .ref q), (2, .int (nI (B + e))), (3, .int (nI (B + p))), (4, .int (nI (B + i)))], [.int (nI (B + i)), .ref (qq 6)], M)) rfl rfl rfl ?_
        refine ps_ald (S' := (18, [(0, .ref q), (2, .int (nI (B + e))), (3, .int (nI (B + p))), (4, .int (nI (B + i)))], [.int ((F 6) (Int32.toNatClampNeg (nI (B + i))))], M)) rfl h_qq_6 rfl (fun i0_17 i1_17 => ?_)
        have hb_17 := (hc (i) (by omega)).2
        rw [show ((F 6) (Int32.toNatClampNeg (nI (B + i)))) = (nI (c i)) from (congrArg (F 6) (nI_toNat (k := B + i) (by omega))).trans ((hc (i) (by omega)).1)]
        show pl _ _ _ (_, [(0, .ref q), (2, .int (nI (B + e))), (3, .int (nI (B + p))), (4, .int (nI (B + i)))], [.int (nI (c i))], M) _
        refine ps_st (S' := (20, [(5, .int (nI (c i))), (0, .ref q), (2, .int (nI (B + e))), (3, .int (nI (B + p))), (4, .int (nI (B + i)))], [], M)) rfl rfl rfl ?_
        refine ps_st (S' := (22, [(5, .int (nI (c i))), (0, .ref q), (2, .int (nI (B + e))), (3, .int (nI (B + p))), (4, .int (nI (B + i)))], [.int (nI (c i))], M)) rfl rfl rfl ?_
        refine ps_st (S' := (24, [(5, .int (nI (c i))), (0, .ref q), (2, .int (nI (B + e))), (3, .int (nI (B + p))), (4, .int (nI (B + i)))], [.int 59, .int (nI (c i))], M)) rfl rfl rfl ?_
        refine ps_if2 (S1 := (40, [(5, .int (nI (c i))), (0, .ref q), (2, .int (nI (B + e))), (3, .int (nI (B + p))), (4, .int (nI (B + i)))], [], M)) (S2 := (27, [(5, .int (nI (c i))), (0, .ref q), (2, .int (nI (B + e))), (3, .int (nI (B + p))), (4, .int (nI (B + i)))], [], M)) rfl rfl rfl (fun c_24 => ?_) (fun c_24 => ?_)
        · have c_24 : ¬ (nI (c i)) = 59 := of_decide_eq_true c_24
          have n_24 : ¬ (c i = 59) := fun h9 => c_24 ((eq_nI (p := c i) (n := 59) (by omega) (by decide)).mpr h9)
          refine ps_st (S' := (42, [(5, .int (nI (c i))), (0, .ref q), (2, .int (nI (B + e))), (3, .int (nI (B + p))), (4, .int (nI (B + i)))], [.int (nI (c i))], M)) rfl rfl rfl ?_
          refine ps_st (S' := (44, [(5, .int (nI (c i))), (0, .ref q), (2, .int (nI (B + e))), (3, .int (nI (B + p))), (4, .int (nI (B + i)))], [.int 46, .int (nI (c i))], M)) rfl rfl rfl ?_
          refine ps_if2 (S1 := (67, [], [], M)) (S2 := (47, [(5, .int (nI (c i))), (0, .ref q), (2, .int (nI (B + e))), (3, .int (nI (B + p))), (4, .int (nI (B + i)))], [], M)) rfl rfl rfl (fun c_44 => ?_) (fun c_44 => ?_)
          · have c_44 : (nI (c i)) = 46 := of_decide_eq_true c_44
            have n_44 : c i = 46 := (eq_nI (p := c i) (n := 46) (by omega) (by decide)).mp c_44
            refine ps_st (S' := (68, [], [.int (-1)], M)) rfl rfl rfl ?_
            exact ps_ret rfl rfl (Or.inl ⟨by
                rw [← hs, s_nm_st (i := i) (by omega)]
                repeat' split
                all_goals first | rfl | (exfalso; omega), rfl, rfl⟩)
          · have c_44 : ¬ ((nI (c i)) = 46) := of_decide_eq_false c_44
            have n_44 : ¬ (c i = 46) := fun h9 => c_44 ((eq_nI (p := c i) (n := 46) (by omega) (by decide)).mpr h9)
            refine ps_st (S' := (49, [(5, .int (nI (c i))), (0, .ref q), (2, .int (nI (B + e))), (3, .int (nI (B + p))), (4, .int (nI (B + i)))], [.int (nI (c i))], M)) rfl rfl rfl ?_
            refine ps_st (S' := (51, [(5, .int (nI (c i))), (0, .ref q), (2, .int (nI (B + e))), (3, .int (nI (B + p))), (4, .int (nI (B + i)))], [.int 91, .int (nI (c i))], M)) rfl rfl rfl ?_
            refine ps_if2 (S1 := (67, [], [], M)) (S2 := (54, [(5, .int (nI (c i))), (0, .ref q), (2, .int (nI (B + e))), (3, .int (nI (B + p))), (4, .int (nI (B + i)))], [], M)) rfl rfl rfl (fun c_51 => ?_) (fun c_51 => ?_)
            · have c_51 : (nI (c i)) = 91 := of_decide_eq_true c_51
              have n_51 : c i = 91 := (eq_nI (p := c i) (n := 91) (by omega) (by decide)).mp c_51
              refine ps_st (S' := (68, [], [.int (-1)], M)) rfl rfl rfl ?_
              exact ps_ret rfl rfl (Or.inl ⟨by
                  rw [← hs, s_nm_st (i := i) (by omega)]
                  repeat' split
                  all_goals first | rfl | (exfalso; omega), rfl, rfl⟩)
            · have c_51 : ¬ ((nI (c i)) = 91) := of_decide_eq_false c_51
              have n_51 : ¬ (c i = 91) := fun h9 => c_51 ((eq_nI (p := c i) (n := 91) (by omega) (by decide)).mpr h9)
              refine ps_st (S' := (56, [(5, .int (nI (c i))), (0, .ref q), (2, .int (nI (B + e))), (3, .int (nI (B + p))), (4, .int (nI (B + i)))], [.int (nI (c i))], M)) rfl rfl rfl ?_
              refine ps_st (S' := (58, [(5, .int (nI (c i))), (0, .ref q), (2, .int (nI (B + e))), (3, .int (nI (B + p))), (4, .int (nI (B + i)))], [.int 47, .int (nI (c i))], M)) rfl rfl rfl ?_
              refine ps_if2 (S1 := (69, [(0, .ref q), (2, .int (nI (B + e))), (3, .int (nI (B + p))), (4, .int (nI (B + i))), (5, .int (nI (c i)))], [], M)) (S2 := (61, [(5, .int (nI (c i))), (0, .ref q), (2, .int (nI (B + e))), (3, .int (nI (B + p))), (4, .int (nI (B + i)))], [], M)) rfl rfl rfl (fun c_58 => ?_) (fun c_58 => ?_)
              · have c_58 : ¬ (nI (c i)) = 47 := of_decide_eq_true c_58
                have n_58 : ¬ (c i = 47) := fun h9 => c_58 ((eq_nI (p := c i) (n := 47) (by omega) (by decide)).mpr h9)
                refine ps_st (S' := (71, [(0, .ref q), (2, .int (nI (B + e))), (3, .int (nI (B + p))), (4, .int (nI (B + i))), (5, .int (nI (c i)))], [.int (nI (c i))], M)) rfl rfl rfl ?_
                refine ps_st (S' := (73, [(0, .ref q), (2, .int (nI (B + e))), (3, .int (nI (B + p))), (4, .int (nI (B + i))), (5, .int (nI (c i)))], [.int 47, .int (nI (c i))], M)) rfl rfl rfl ?_
                refine ps_if2 (S1 := (81, [(0, .ref q), (2, .int (nI (B + e))), (3, .int (nI (B + p))), (4, .int (nI (B + i)))], [], M)) (S2 := (76, [(0, .ref q), (2, .int (nI (B + e))), (3, .int (nI (B + p))), (4, .int (nI (B + i))), (5, .int (nI (c i)))], [], M)) rfl rfl rfl (fun c_73 => ?_) (fun c_73 => ?_)
                · have c_73 : ¬ (nI (c i)) = 47 := of_decide_eq_true c_73
                  have n_73 : ¬ (c i = 47) := fun h9 => c_73 ((eq_nI (p := c i) (n := 47) (by omega) (by decide)).mpr h9)
                  refine ps_st (S' := (84, [(4, .int ((nI (B + i)) + 1)), (0, .ref q), (2, .int (nI (B + e))), (3, .int (nI (B + p)))], [], M)) rfl rfl rfl ?_
                  rw [nI_add1 (p := B + i) (k := 1) (x := 1) rfl (by omega)]
                  show pl _ _ _ (_, [(4, .int (nI (B + i + 1))), (0, .ref q), (2, .int (nI (B + e))), (3, .int (nI (B + p)))], [], M) _
                  refine ps_st (S' := (5, [(0, .ref q), (2, .int (nI (B + e))), (3, .int (nI (B + p))), (4, .int (nI (B + i + 1)))], [], M)) rfl rfl rfl ?_
                  exact ih (i + 1) (p)  (by omega) (by
                      rw [← hs, s_nm_st (i := i) (by omega), if_neg (by omega), if_neg (by omega), if_neg (by omega)])
                · have c_73 : ¬ (¬ (nI (c i)) = 47) := of_decide_eq_false c_73
                  have n_73 : c i = 47 := (eq_nI (p := c i) (n := 47) (by omega) (by decide)).mp (Decidable.not_not.mp c_73)
                  refine ps_st (S' := (78, [(0, .ref q), (2, .int (nI (B + e))), (3, .int (nI (B + p))), (4, .int (nI (B + i))), (5, .int (nI (c i)))], [.int (nI (B + i))], M)) rfl rfl rfl ?_
                  refine ps_st (S' := (79, [(0, .ref q), (2, .int (nI (B + e))), (3, .int (nI (B + p))), (4, .int (nI (B + i))), (5, .int (nI (c i)))], [.int 1, .int (nI (B + i))], M)) rfl rfl rfl ?_
                  refine ps_st (S' := (80, [(0, .ref q), (2, .int (nI (B + e))), (3, .int (nI (B + p))), (4, .int (nI (B + i))), (5, .int (nI (c i)))], [.int ((nI (B + i)) + 1)], M)) rfl rfl rfl ?_
                  rw [nI_add1 (p := B + i) (k := 1) (x := 1) rfl (by omega)]
                  show pl _ _ _ (_, [(0, .ref q), (2, .int (nI (B + e))), (3, .int (nI (B + p))), (4, .int (nI (B + i))), (5, .int (nI (c i)))], [.int (nI (B + i + 1))], M) _
                  refine ps_st (S' := (81, [(0, .ref q), (2, .int (nI (B + e))), (3, .int (nI (B + i + 1))), (4, .int (nI (B + i)))], [], M)) rfl rfl rfl ?_
                  refine ps_st (S' := (84, [(4, .int ((nI (B + i)) + 1)), (0, .ref q), (2, .int (nI (B + e))), (3, .int (nI (B + i + 1)))], [], M)) rfl rfl rfl ?_
                  rw [nI_add1 (p := B + i) (k := 1) (x := 1) rfl (by omega)]
                  show pl _ _ _ (_, [(4, .int (nI (B + i + 1))), (0, .ref q), (2, .int (nI (B + e))), (3, .int (nI (B + i + 1)))], [], M) _
                  refine ps_st (S' := (5, [(0, .ref q), (2, .int (nI (B + e))), (3, .int (nI (B + i + 1))), (4, .int (nI (B + i + 1)))], [], M)) rfl rfl rfl ?_
                  exact ih (i + 1) (i + 1)  (by omega) (by
                      rw [← hs, s_nm_st (i := i) (by omega), if_neg (by omega), if_neg (by omega), if_pos (by omega)])
              · have c_58 : ¬ (¬ (nI (c i)) = 47) := of_decide_eq_false c_58
                have n_58 : c i = 47 := (eq_nI (p := c i) (n := 47) (by omega) (by decide)).mp (Decidable.not_not.mp c_58)
                refine ps_st (S' := (63, [(5, .int (nI (c i))), (0, .ref q), (2, .int (nI (B + e))), (3, .int (nI (B + p))), (4, .int (nI (B + i)))], [.int (nI (B + i))], M)) rfl rfl rfl ?_
                refine ps_st (S' := (64, [(5, .int (nI (c i))), (0, .ref q), (2, .int (nI (B + e))), (3, .int (nI (B + p))), (4, .int (nI (B + i)))], [.int (nI (B + p)), .int (nI (B + i))], M)) rfl rfl rfl ?_
                refine ps_if2 (S1 := (69, [(0, .ref q), (2, .int (nI (B + e))), (3, .int (nI (B + p))), (4, .int (nI (B + i))), (5, .int (nI (c i)))], [], M)) (S2 := (67, [], [], M)) rfl rfl rfl (fun c_64 => ?_) (fun c_64 => ?_)
                · have c_64 : ¬ (nI (B + i)) = (nI (B + p)) := of_decide_eq_true c_64
                  have n_64 : ¬ (B + i = B + p) := fun h9 => c_64 ((eq_nI (p := B + i) (n := B + p) (by omega) (by omega)).mpr h9)
                  refine ps_st (S' := (71, [(0, .ref q), (2, .int (nI (B + e))), (3, .int (nI (B + p))), (4, .int (nI (B + i))), (5, .int (nI (c i)))], [.int (nI (c i))], M)) rfl rfl rfl ?_
                  refine ps_st (S' := (73, [(0, .ref q), (2, .int (nI (B + e))), (3, .int (nI (B + p))), (4, .int (nI (B + i))), (5, .int (nI (c i)))], [.int 47, .int (nI (c i))], M)) rfl rfl rfl ?_
                  refine ps_if2 (S1 := (81, [(0, .ref q), (2, .int (nI (B + e))), (3, .int (nI (B + p))), (4, .int (nI (B + i)))], [], M)) (S2 := (76, [(0, .ref q), (2, .int (nI (B + e))), (3, .int (nI (B + p))), (4, .int (nI (B + i))), (5, .int (nI (c i)))], [], M)) rfl rfl rfl (fun c_73 => ?_) (fun c_73 => ?_)
                  · have c_73 : ¬ (nI (c i)) = 47 := of_decide_eq_true c_73
                    have n_73 : ¬ (c i = 47) := fun h9 => c_73 ((eq_nI (p := c i) (n := 47) (by omega) (by decide)).mpr h9)
                    refine ps_st (S' := (84, [(4, .int ((nI (B + i)) + 1)), (0, .ref q), (2, .int (nI (B + e))), (3, .int (nI (B + p)))], [], M)) rfl rfl rfl ?_
                    rw [nI_add1 (p := B + i) (k := 1) (x := 1) rfl (by omega)]
                    show pl _ _ _ (_, [(4, .int (nI (B + i + 1))), (0, .ref q), (2, .int (nI (B + e))), (3, .int (nI (B + p)))], [], M) _
                    refine ps_st (S' := (5, [(0, .ref q), (2, .int (nI (B + e))), (3, .int (nI (B + p))), (4, .int (nI (B + i + 1)))], [], M)) rfl rfl rfl ?_
                    exact ih (i + 1) (p)  (by omega) (by
                        rw [← hs, s_nm_st (i := i) (by omega), if_neg (by omega), if_neg (by omega), if_neg (by omega)])
                  · have c_73 : ¬ (¬ (nI (c i)) = 47) := of_decide_eq_false c_73
                    have n_73 : c i = 47 := (eq_nI (p := c i) (n := 47) (by omega) (by decide)).mp (Decidable.not_not.mp c_73)
                    refine ps_st (S' := (78, [(0, .ref q), (2, .int (nI (B + e))), (3, .int (nI (B + p))), (4, .int (nI (B + i))), (5, .int (nI (c i)))], [.int (nI (B + i))], M)) rfl rfl rfl ?_
                    refine ps_st (S' := (79, [(0, .ref q), (2, .int (nI (B + e))), (3, .int (nI (B + p))), (4, .int (nI (B + i))), (5, .int (nI (c i)))], [.int 1, .int (nI (B + i))], M)) rfl rfl rfl ?_
                    refine ps_st (S' := (80, [(0, .ref q), (2, .int (nI (B + e))), (3, .int (nI (B + p))), (4, .int (nI (B + i))), (5, .int (nI (c i)))], [.int ((nI (B + i)) + 1)], M)) rfl rfl rfl ?_
                    rw [nI_add1 (p := B + i) (k := 1) (x := 1) rfl (by omega)]
                    show pl _ _ _ (_, [(0, .ref q), (2, .int (nI (B + e))), (3, .int (nI (B + p))), (4, .int (nI (B + i))), (5, .int (nI (c i)))], [.int (nI (B + i + 1))], M) _
                    refine ps_st (S' := (81, [(0, .ref q), (2, .int (nI (B + e))), (3, .int (nI (B + i + 1))), (4, .int (nI (B + i)))], [], M)) rfl rfl rfl ?_
                    refine ps_st (S' := (84, [(4, .int ((nI (B + i)) + 1)), (0, .ref q), (2, .int (nI (B + e))), (3, .int (nI (B + i + 1)))], [], M)) rfl rfl rfl ?_
                    rw [nI_add1 (p := B + i) (k := 1) (x := 1) rfl (by omega)]
                    show pl _ _ _ (_, [(4, .int (nI (B + i + 1))), (0, .ref q), (2, .int (nI (B + e))), (3, .int (nI (B + i + 1)))], [], M) _
                    refine ps_st (S' := (5, [(0, .ref q), (2, .int (nI (B + e))), (3, .int (nI (B + i + 1))), (4, .int (nI (B + i + 1)))], [], M)) rfl rfl rfl ?_
                    exact ih (i + 1) (i + 1)  (by omega) (by
                        rw [← hs, s_nm_st (i := i) (by omega), if_neg (by omega), if_neg (by omega), if_pos (by omega)])
                · have c_64 : ¬ (¬ (nI (B + i)) = (nI (B + p))) := of_decide_eq_false c_64
                  have n_64 : B + i = B + p := (eq_nI (p := B + i) (n := B + p) (by omega) (by omega)).mp (Decidable.not_not.mp c_64)
                  refine ps_st (S' := (68, [], [.int (-1)], M)) rfl rfl rfl ?_
                  exact ps_ret rfl rfl (Or.inl ⟨by
                      rw [← hs, s_nm_st (i := i) (by omega)]
                      repeat' split
                      all_goals first | rfl | (exfalso; omega), rfl, rfl⟩)
        · have c_24 : ¬ (¬ (nI (c i)) = 59) := of_decide_eq_false c_24
          have n_24 : c i = 59 := (eq_nI (p := c i) (n := 59) (by omega) (by decide)).mp (Decidable.not_not.mp c_24)
          refine ps_st (S' := (29, [(5, .int (nI (c i))), (0, .ref q), (2, .int (nI (B + e))), (3, .int (nI (B + p))), (4, .int (nI (B + i)))], [.int (nI (B + i))], M)) rfl rfl rfl ?_
          refine ps_st (S' := (30, [(5, .int (nI (c i))), (0, .ref q), (2, .int (nI (B + e))), (3, .int (nI (B + p))), (4, .int (nI (B + i)))], [.int (nI (B + p)), .int (nI (B + i))], M)) rfl rfl rfl ?_
          refine ps_if2 (S1 := (38, [(5, .int (nI (c i))), (0, .ref q), (2, .int (nI (B + e))), (3, .int (nI (B + p))), (4, .int (nI (B + i)))], [], M)) (S2 := (33, [(5, .int (nI (c i))), (0, .ref q), (2, .int (nI (B + e))), (3, .int (nI (B + p))), (4, .int (nI (B + i)))], [], M)) rfl rfl rfl (fun c_30 => ?_) (fun c_30 => ?_)
          · have c_30 : (nI (B + i)) ≤ (nI (B + p)) := of_decide_eq_true c_30
            have n_30 : B + i ≤ B + p := (le_nI (p := B + i) (n := B + p) (by omega) (by omega)).mp c_30
            refine ps_st (S' := (39, [], [.int (-1)], M)) rfl rfl rfl ?_
            exact ps_ret rfl rfl (Or.inl ⟨by
                rw [← hs, s_nm_st (i := i) (by omega)]
                repeat' split
                all_goals first | rfl | (exfalso; omega), rfl, rfl⟩)
          · have c_30 : ¬ ((nI (B + i)) ≤ (nI (B + p))) := of_decide_eq_false c_30
            have n_30 : ¬ (B + i ≤ B + p) := fun h9 => c_30 ((le_nI (p := B + i) (n := B + p) (by omega) (by omega)).mpr h9)
            refine ps_st (S' := (35, [(5, .int (nI (c i))), (0, .ref q), (2, .int (nI (B + e))), (3, .int (nI (B + p))), (4, .int (nI (B + i)))], [.int (nI (B + i))], M)) rfl rfl rfl ?_
            refine ps_st (S' := (39, [], [.int (nI (B + i))], M)) rfl rfl rfl ?_
            exact ps_reti rfl (Or.inr ⟨i, by
                rw [← hs, s_nm_st (i := i) (by omega)]
                repeat' split
                all_goals first | rfl | (exfalso; omega), rfl, rfl⟩)
  refine ps_st (S' := (1, [(0, .ref q), (1, .int (nI (B + i0))), (2, .int (nI (B + e)))], [.int (nI (B + i0))], M)) rfl rfl rfl ?_
  refine ps_st (S' := (2, [(3, .int (nI (B + i0))), (0, .ref q), (1, .int (nI (B + i0))), (2, .int (nI (B + e)))], [], M)) rfl rfl rfl ?_
  refine ps_st (S' := (3, [(3, .int (nI (B + i0))), (0, .ref q), (1, .int (nI (B + i0))), (2, .int (nI (B + e)))], [.int (nI (B + i0))], M)) rfl rfl rfl ?_
  refine ps_st (S' := (5, [(0, .ref q), (2, .int (nI (B + e))), (3, .int (nI (B + i0))), (4, .int (nI (B + i0)))], [], M)) rfl rfl rfl ?_
  exact (LL kf) (i0) (i0)  (by omega) (rfl)
set_option maxHeartbeats 1000000 in
theorem dy_typeEnd {g : xe_G} {M : mi_H} {q H m : Nat} {qq : Nat → Nat} {F : Nat → Nat → Int32} {sz cc : Int32} {c : Nat → Nat} {B e : Nat} {i0 : Nat}  (hP : PL M q sz H m qq F cc) (hm : B + e ≤ m ∧ m ≤ 65540) (hc : ∀ i, i < e → F 6 (B + i) = nI (c i) ∧ c i < 65536) (hi : i0 ≤ e) : pt (mT g) 142 [.ref q, .int (nI (B + i0)), .int (nI (B + e))] M (fun v M' => ((s_ty c e i0 = none) ∧ v = some (.int (-1)) ∧ M = M') ∨ (∃ (x : Nat), (s_ty c e i0 = some x) ∧ v = some (.int (nI (B + x))) ∧ M = M')) := by
  refine pt_in (b := mb_142 g) rfl (fun kf => ?_)
  show pl (mT g) kf (mb_142 g).2 (0, [(0, .ref q), (1, .int (nI (B + i0))), (2, .int (nI (B + e)))], [], M) _
  have h_q := hP.1
  have h_qq_1 := hP.2.1 1 (by decide) (by decide)
  have h_qq_2 := hP.2.1 2 (by decide) (by decide)
  have h_qq_3 := hP.2.1 3 (by decide) (by decide)
  have h_qq_4 := hP.2.1 4 (by decide) (by decide)
  have h_qq_5 := hP.2.1 5 (by decide) (by decide)
  have h_qq_6 := hP.2.2
  have LL : ∀ (kf : Nat), (∀ (k : Nat), (i0 ≤ k ∧ k ≤ e) → (s_br c (e - k) k = s_br c (e - i0) i0) →  pl (mT g) kf (mb_142 g).2 (2, [(0, .ref q), (1, .int (nI (B + i0))), (2, .int (nI (B + e))), (3, .int (nI (B + k)))], [], M) (fun v M' => ((s_ty c e i0 = none) ∧ v = some (.int (-1)) ∧ M = M') ∨ (∃ (x : Nat), (s_ty c e i0 = some x) ∧ v = some (.int (nI (B + x))) ∧ M = M'))) := by
    intro kf
    induction kf with
    | zero => exact (by intros; exact pl_0)
    | succ kf ih =>
      intro k hi2 hs
      refine ps_st1 (S' := (3, [(0, .ref q), (1, .int (nI (B + i0))), (2, .int (nI (B + e))), (3, .int (nI (B + k)))], [.int (nI (B + k))], M)) rfl rfl rfl ?_
      refine ps_st (S' := (4, [(0, .ref q), (1, .int (nI (B + i0))), (2, .int (nI (B + e))), (3, .int (nI (B + k)))], [.int (nI (B + e)), .int (nI (B + k))], M)) rfl rfl rfl ?_
      refine ps_if2 (S1 := (24, [(0, .ref q), (1, .int (nI (B + i0))), (2, .int (nI (B + e))), (3, .int (nI (B + k)))], [], M)) (S2 := (7, [(0, .ref q), (1, .int (nI (B + i0))), (2, .int (nI (B + e))), (3, .int (nI (B + k)))], [], M)) rfl rfl rfl (fun c_4 => ?_) (fun c_4 => ?_)
      · have c_4 : (nI (B + e)) ≤ (nI (B + k)) := of_decide_eq_true c_4
        have n_4 : B + e ≤ B + k := (le_nI (p := B + e) (n := B + k) (by omega) (by omega)).mp c_4
        refine ps_st (S' := (25, [(0, .ref q), (1, .int (nI (B + i0))), (2, .int (nI (B + e))), (3, .int (nI (B + k)))], [.int (nI (B + k))], M)) rfl rfl rfl ?_
        refine ps_st (S' := (26, [(0, .ref q), (1, .int (nI (B + i0))), (2, .int (nI (B + e))), (3, .int (nI (B + k)))], [.int (nI (B + e)), .int (nI (B + k))], M)) rfl rfl rfl ?_
        refine ps_if2 (S1 := (38, [], [], M)) (S2 := (29, [(0, .ref q), (1, .int (nI (B + i0))), (2, .int (nI (B + e))), (3, .int (nI (B + k)))], [], M)) rfl rfl rfl (fun c_26 => ?_) (fun c_26 => ?_)
        · have c_26 : (nI (B + e)) ≤ (nI (B + k)) := of_decide_eq_true c_26
          have n_26 : B + e ≤ B + k := (le_nI (p := B + e) (n := B + k) (by omega) (by omega)).mp c_26
          refine ps_st (S' := (39, [], [.int (-1)], M)) rfl rfl rfl ?_
          exact ps_ret rfl rfl (Or.inl ⟨by
              have hb : s_br c (e - i0) i0 = k := by rw [← hs, s_br_en (by omega)]
              unfold s_ty
              rw [hb]
              repeat' split
              all_goals first | rfl | (exfalso; omega), rfl, rfl⟩)
        · have c_26 : ¬ ((nI (B + e)) ≤ (nI (B + k))) := of_decide_eq_false c_26
          have n_26 : ¬ (B + e ≤ B + k) := fun h9 => c_26 ((le_nI (p := B + e) (n := B + k) (by omega) (by omega)).mpr h9)
          refine ps_st (S' := (30, [(0, .ref q), (1, .int (nI (B + i0))), (2, .int (nI (B + e))), (3, .int (nI (B + k)))], [.int (nI (B + k))], M)) rfl rfl rfl ?_
          refine ps_st (S' := (31, [(0, .ref q), (1, .int (nI (B + i0))), (2, .int (nI (B + e))), (3, .int (nI (B + k)))], [.int (nI (B + i0)), .int (nI (B + k))], M)) rfl rfl rfl ?_
          refine ps_st (S' := (32, [(0, .ref q), (1, .int (nI (B + i0))), (2, .int (nI (B + e))), (3, .int (nI (B + k)))], [.int ((nI (B + k)) - (nI (B + i0)))], M)) rfl rfl rfl ?_
          rw [nI_sub1 (p := B + k) (k := B + i0) (x := (nI (B + i0))) rfl (by omega) (by omega)]
          show pl _ _ _ (_, [(0, .ref q), (1, .int (nI (B + i0))), (2, .int (nI (B + e))), (3, .int (nI (B + k)))], [.int (nI ((B + k) - (B + i0)))], M) _
          refine ps_st (S' := (35, [(0, .ref q), (1, .int (nI (B + i0))), (2, .int (nI (B + e))), (3, .int (nI (B + k)))], [.int 255, .int (nI ((B + k) - (B + i0)))], M)) rfl rfl rfl ?_
          refine ps_if2 (S1 := (40, [(0, .ref q), (1, .int (nI (B + i0))), (2, .int (nI (B + e))), (3, .int (nI (B + k)))], [], M)) (S2 := (38, [], [], M)) rfl rfl rfl (fun c_35 => ?_) (fun c_35 => ?_)
          · have c_35 : (nI ((B + k) - (B + i0))) ≤ 255 := of_decide_eq_true c_35
            have n_35 : (B + k) - (B + i0) ≤ 255 := (le_nI (p := (B + k) - (B + i0)) (n := 255) (by omega) (by decide)).mp c_35
            refine ps_st (S' := (41, [(0, .ref q), (1, .int (nI (B + i0))), (2, .int (nI (B + e))), (3, .int (nI (B + k)))], [.ref q], M)) rfl rfl rfl ?_
            refine ps_get (S' := (44, [(0, .ref q), (1, .int (nI (B + i0))), (2, .int (nI (B + e))), (3, .int (nI (B + k)))], [.ref (qq 6)], M)) rfl h_q rfl rfl ?_
            refine ps_st (S' := (45, [(0, .ref q), (1, .int (nI (B + i0))), (2, .int (nI (B + e))), (3, .int (nI (B + k)))], [.int (nI (B + k)), .ref (qq 6)], M)) rfl rfl rfl ?_
            refine ps_ald (S' := (46, [(0, .ref q), (1, .int (nI (B + i0))), (2, .int (nI (B + e))), (3, .int (nI (B + k)))], [.int ((F 6) (Int32.toNatClampNeg (nI (B + k))))], M)) rfl h_qq_6 rfl (fun i0_45 i1_45 => ?_)
            have hb_45 := (hc (k) (by omega)).2
            rw [show ((F 6) (Int32.toNatClampNeg (nI (B + k)))) = (nI (c k)) from (congrArg (F 6) (nI_toNat (k := B + k) (by omega))).trans ((hc (k) (by omega)).1)]
            show pl _ _ _ (_, [(0, .ref q), (1, .int (nI (B + i0))), (2, .int (nI (B + e))), (3, .int (nI (B + k)))], [.int (nI (c k))], M) _
            refine pl_sw rfl (fun t_46 et_46 => ?_)
            have ht_46 : t_46 ∈ [160, 164, 194] := mi_sw_sub et_46 (by decide)
            simp only [List.mem_cons, List.not_mem_nil, or_false] at ht_46
            rcases ht_46 with rfl | rfl | rfl
            · show pl _ _ _ (160, [(0, .ref q), (1, .int (nI (B + i0))), (2, .int (nI (B + e))), (3, .int (nI (B + k)))], [], M) _
              have m_46 := sw_nat (t := c k) (by omega) et_46
              simp at m_46
              refine ps_st (S' := (161, [(0, .ref q), (1, .int (nI (B + i0))), (2, .int (nI (B + e))), (3, .int (nI (B + k)))], [.int (nI (B + k))], M)) rfl rfl rfl ?_
              refine ps_st (S' := (162, [(0, .ref q), (1, .int (nI (B + i0))), (2, .int (nI (B + e))), (3, .int (nI (B + k)))], [.int 1, .int (nI (B + k))], M)) rfl rfl rfl ?_
              refine ps_st (S' := (163, [(0, .ref q), (1, .int (nI (B + i0))), (2, .int (nI (B + e))), (3, .int (nI (B + k)))], [.int ((nI (B + k)) + 1)], M)) rfl rfl rfl ?_
              rw [nI_add1 (p := B + k) (k := 1) (x := 1) rfl (by omega)]
              show pl _ _ _ (_, [(0, .ref q), (1, .int (nI (B + i0))), (2, .int (nI (B + e))), (3, .int (nI (B + k)))], [.int (nI (B + k + 1))], M) _
              exact ps_reti rfl (Or.inr ⟨k + 1, by
                  have hb : s_br c (e - i0) i0 = k := by rw [← hs, s_br_en (by omega)]
                  unfold s_ty
                  rw [hb]
                  repeat' split
                  all_goals first | rfl | (exfalso; omega), rfl, rfl⟩)
            · show pl _ _ _ (164, [(0, .ref q), (1, .int (nI (B + i0))), (2, .int (nI (B + e))), (3, .int (nI (B + k)))], [], M) _
              have m_46 := sw_nat (t := c k) (by omega) et_46
              simp at m_46
              refine ps_st (S' := (165, [(0, .ref q), (1, .int (nI (B + i0))), (2, .int (nI (B + e))), (3, .int (nI (B + k)))], [.ref q], M)) rfl rfl rfl ?_
              refine ps_st (S' := (166, [(0, .ref q), (1, .int (nI (B + i0))), (2, .int (nI (B + e))), (3, .int (nI (B + k)))], [.int (nI (B + k)), .ref q], M)) rfl rfl rfl ?_
              refine ps_st (S' := (167, [(0, .ref q), (1, .int (nI (B + i0))), (2, .int (nI (B + e))), (3, .int (nI (B + k)))], [.int 1, .int (nI (B + k)), .ref q], M)) rfl rfl rfl ?_
              refine ps_st (S' := (168, [(0, .ref q), (1, .int (nI (B + i0))), (2, .int (nI (B + e))), (3, .int (nI (B + k)))], [.int ((nI (B + k)) + 1), .ref q], M)) rfl rfl rfl ?_
              rw [nI_add1 (p := B + k) (k := 1) (x := 1) rfl (by omega)]
              show pl _ _ _ (_, [(0, .ref q), (1, .int (nI (B + i0))), (2, .int (nI (B + e))), (3, .int (nI (B + k)))], [.int (nI (B + k + 1)), .ref q], M) _
              refine ps_st (S' := (169, [(0, .ref q), (1, .int (nI (B + i0))), (2, .int (nI (B + e))), (3, .int (nI (B + k)))], [.int (nI (B + e)), .int (nI (B + k + 1)), .ref q], M)) rfl rfl rfl ?_
              refine pl_call (a := [.ref q, .int (nI (B + k + 1)), .int (nI (B + e))]) (rest := []) rfl rfl rfl (dy_nameEnd (q := q) (c := c) (B := B) (e := e) (i0 := (k + 1)) (hP) (hm) (hc) (by omega)) (fun v1 M2 q3 => ?_)
              rcases q3 with q3 | q3
              · skip
                obtain ⟨q169_s, rfl, rfl⟩ := q3
                show pl _ _ _ (172, [(0, .ref q), (1, .int (nI (B + i0))), (2, .int (nI (B + e))), (3, .int (nI (B + k)))], [.int (-1)], M) _
                refine ps_st (S' := (174, [(4, .int (-1)), (0, .ref q), (1, .int (nI (B + i0))), (2, .int (nI (B + e))), (3, .int (nI (B + k)))], [], M)) rfl rfl rfl ?_
                refine ps_st (S' := (176, [(4, .int (-1)), (0, .ref q), (1, .int (nI (B + i0))), (2, .int (nI (B + e))), (3, .int (nI (B + k)))], [.int (-1)], M)) rfl rfl rfl ?_
                refine ps_if (S1 := (185, [], [], M)) (S2 := (179, [(4, .int (-1)), (0, .ref q), (1, .int (nI (B + i0))), (2, .int (nI (B + e))), (3, .int (nI (B + k)))], [], M)) rfl rfl rfl (fun c_176 => ?_) (fun c_176 => ?_)
                rotate_left
                · exact absurd (by decide) (of_decide_eq_false c_176)
                refine ps_st (S' := (186, [], [.int (-1)], M)) rfl rfl rfl ?_
                refine ps_st (S' := (193, [], [.int (-1)], M)) rfl rfl rfl ?_
                exact ps_ret rfl rfl (Or.inl ⟨by
                    have hb : s_br c (e - i0) i0 = k := by rw [← hs, s_br_en (by omega)]
                    unfold s_ty
                    rw [hb]
                    rw [q169_s]
                    dsimp only
                    repeat' split
                    all_goals first | rfl | (exfalso; omega), rfl, rfl⟩)
              · skip
                obtain ⟨x4, q169_s, rfl, rfl⟩ := q3
                show pl _ _ _ (172, [(0, .ref q), (1, .int (nI (B + i0))), (2, .int (nI (B + e))), (3, .int (nI (B + k)))], [.int (nI (B + x4))], M) _
                have hl_169 := s_nm_le q169_s
                refine ps_st (S' := (174, [(4, .int (nI (B + x4))), (0, .ref q), (1, .int (nI (B + i0))), (2, .int (nI (B + e))), (3, .int (nI (B + k)))], [], M)) rfl rfl rfl ?_
                refine ps_st (S' := (176, [(4, .int (nI (B + x4))), (0, .ref q), (1, .int (nI (B + i0))), (2, .int (nI (B + e))), (3, .int (nI (B + k)))], [.int (nI (B + x4))], M)) rfl rfl rfl ?_
                refine ps_if (S1 := (185, [], [], M)) (S2 := (179, [(4, .int (nI (B + x4))), (0, .ref q), (1, .int (nI (B + i0))), (2, .int (nI (B + e))), (3, .int (nI (B + k)))], [], M)) rfl rfl rfl (fun c_176 => ?_) (fun c_176 => ?_)
                · exact absurd (of_decide_eq_true c_176) (nI_n0 (by omega))
                refine ps_st (S' := (181, [(4, .int (nI (B + x4))), (0, .ref q), (1, .int (nI (B + i0))), (2, .int (nI (B + e))), (3, .int (nI (B + k)))], [.int (nI (B + x4))], M)) rfl rfl rfl ?_
                refine ps_st (S' := (182, [(4, .int (nI (B + x4))), (0, .ref q), (1, .int (nI (B + i0))), (2, .int (nI (B + e))), (3, .int (nI (B + k)))], [.int (nI (B + e)), .int (nI (B + x4))], M)) rfl rfl rfl ?_
                refine ps_if2 (S1 := (189, [(4, .int (nI (B + x4))), (0, .ref q), (1, .int (nI (B + i0))), (2, .int (nI (B + e))), (3, .int (nI (B + k)))], [], M)) (S2 := (185, [], [], M)) rfl rfl rfl (fun c_182 => ?_) (fun c_182 => ?_)
                · have c_182 : (nI (B + x4)) < (nI (B + e)) := of_decide_eq_true c_182
                  have n_182 : B + x4 < B + e := (lt_nI (p := B + x4) (n := B + e) (by omega) (by omega)).mp c_182
                  refine ps_st (S' := (191, [(4, .int (nI (B + x4))), (0, .ref q), (1, .int (nI (B + i0))), (2, .int (nI (B + e))), (3, .int (nI (B + k)))], [.int (nI (B + x4))], M)) rfl rfl rfl ?_
                  refine ps_st (S' := (192, [(4, .int (nI (B + x4))), (0, .ref q), (1, .int (nI (B + i0))), (2, .int (nI (B + e))), (3, .int (nI (B + k)))], [.int 1, .int (nI (B + x4))], M)) rfl rfl rfl ?_
                  refine ps_st (S' := (193, [], [.int ((nI (B + x4)) + 1)], M)) rfl rfl rfl ?_
                  rw [nI_add1 (p := B + x4) (k := 1) (x := 1) rfl (by omega)]
                  show pl _ _ _ (_, [], [.int (nI (B + x4 + 1))], M) _
                  exact ps_reti rfl (Or.inr ⟨x4 + 1, by
                      have hb : s_br c (e - i0) i0 = k := by rw [← hs, s_br_en (by omega)]
                      unfold s_ty
                      rw [hb]
                      rw [q169_s]
                      dsimp only
                      repeat' split
                      all_goals first | rfl | (exfalso; omega), rfl, rfl⟩)
                · have c_182 : ¬ ((nI (B + x4)) < (nI (B + e))) := of_decide_eq_false c_182
                  have n_182 : ¬ (B + x4 < B + e) := fun h9 => c_182 ((lt_nI (p := B + x4) (n := B + e) (by omega) (by omega)).mpr h9)
                  refine ps_st (S' := (186, [], [.int (-1)], M)) rfl rfl rfl ?_
                  refine ps_st (S' := (193, [], [.int (-1)], M)) rfl rfl rfl ?_
                  exact ps_ret rfl rfl (Or.inl ⟨by
                      have hb : s_br c (e - i0) i0 = k := by rw [← hs, s_br_en (by omega)]
                      unfold s_ty
                      rw [hb]
                      rw [q169_s]
                      dsimp only
                      repeat' split
                      all_goals first | rfl | (exfalso; omega), rfl, rfl⟩)
            · show pl _ _ _ (194, [(0, .ref q), (1, .int (nI (B + i0))), (2, .int (nI (B + e))), (3, .int (nI (B + k)))], [], M) _
              have m_46 := sw_nat (t := c k) (by omega) et_46
              simp at m_46
              refine ps_st (S' := (195, [(0, .ref q), (1, .int (nI (B + i0))), (2, .int (nI (B + e))), (3, .int (nI (B + k)))], [.int (-1)], M)) rfl rfl rfl ?_
              exact ps_ret rfl rfl (Or.inl ⟨by
                  have hb : s_br c (e - i0) i0 = k := by rw [← hs, s_br_en (by omega)]
                  unfold s_ty
                  rw [hb]
                  repeat' split
                  all_goals first | rfl | (exfalso; omega), rfl, rfl⟩)
          · have c_35 : ¬ ((nI ((B + k) - (B + i0))) ≤ 255) := of_decide_eq_false c_35
            have n_35 : ¬ ((B + k) - (B + i0) ≤ 255) := fun h9 => c_35 ((le_nI (p := (B + k) - (B + i0)) (n := 255) (by omega) (by decide)).mpr h9)
            refine ps_st (S' := (39, [], [.int (-1)], M)) rfl rfl rfl ?_
            exact ps_ret rfl rfl (Or.inl ⟨by
                have hb : s_br c (e - i0) i0 = k := by rw [← hs, s_br_en (by omega)]
                unfold s_ty
                rw [hb]
                repeat' split
                all_goals first | rfl | (exfalso; omega), rfl, rfl⟩)
      · have c_4 : ¬ ((nI (B + e)) ≤ (nI (B + k))) := of_decide_eq_false c_4
        have n_4 : ¬ (B + e ≤ B + k) := fun h9 => c_4 ((le_nI (p := B + e) (n := B + k) (by omega) (by omega)).mpr h9)
        refine ps_st (S' := (8, [(0, .ref q), (1, .int (nI (B + i0))), (2, .int (nI (B + e))), (3, .int (nI (B + k)))], [.ref q], M)) rfl rfl rfl ?_
        refine ps_get (S' := (11, [(0, .ref q), (1, .int (nI (B + i0))), (2, .int (nI (B + e))), (3, .int (nI (B + k)))], [.ref (qq 6)], M)) rfl h_q rfl rfl ?_
        refine ps_st (S' := (12, [(0, .ref q), (1, .int (nI (B + i0))), (2, .int (nI (B + e))), (3, .int (nI (B + k)))], [.int (nI (B + k)), .ref (qq 6)], M)) rfl rfl rfl ?_
        refine ps_ald (S' := (13, [(0, .ref q), (1, .int (nI (B + i0))), (2, .int (nI (B + e))), (3, .int (nI (B + k)))], [.int ((F 6) (Int32.toNatClampNeg (nI (B + k))))], M)) rfl h_qq_6 rfl (fun i0_12 i1_12 => ?_)
        have hb_12 := (hc (k) (by omega)).2
        rw [show ((F 6) (Int32.toNatClampNeg (nI (B + k)))) = (nI (c k)) from (congrArg (F 6) (nI_toNat (k := B + k) (by omega))).trans ((hc (k) (by omega)).1)]
        show pl _ _ _ (_, [(0, .ref q), (1, .int (nI (B + i0))), (2, .int (nI (B + e))), (3, .int (nI (B + k)))], [.int (nI (c k))], M) _
        refine ps_st (S' := (15, [(0, .ref q), (1, .int (nI (B + i0))), (2, .int (nI (B + e))), (3, .int (nI (B + k)))], [.int 91, .int (nI (c k))], M)) rfl rfl rfl ?_
        refine ps_if2 (S1 := (24, [(0, .ref q), (1, .int (nI (B + i0))), (2, .int (nI (B + e))), (3, .int (nI (B + k)))], [], M)) (S2 := (18, [(0, .ref q), (1, .int (nI (B + i0))), (2, .int (nI (B + e))), (3, .int (nI (B + k)))], [], M)) rfl rfl rfl (fun c_15 => ?_) (fun c_15 => ?_)
        · have c_15 : ¬ (nI (c k)) = 91 := of_decide_eq_true c_15
          have n_15 : ¬ (c k = 91) := fun h9 => c_15 ((eq_nI (p := c k) (n := 91) (by omega) (by decide)).mpr h9)
          refine ps_st (S' := (25, [(0, .ref q), (1, .int (nI (B + i0))), (2, .int (nI (B + e))), (3, .int (nI (B + k)))], [.int (nI (B + k))], M)) rfl rfl rfl ?_
          refine ps_st (S' := (26, [(0, .ref q), (1, .int (nI (B + i0))), (2, .int (nI (B + e))), (3, .int (nI (B + k)))], [.int (nI (B + e)), .int (nI (B + k))], M)) rfl rfl rfl ?_
          refine ps_if2 (S1 := (38, [], [], M)) (S2 := (29, [(0, .ref q), (1, .int (nI (B + i0))), (2, .int (nI (B + e))), (3, .int (nI (B + k)))], [], M)) rfl rfl rfl (fun c_26 => ?_) (fun c_26 => ?_)
          · have c_26 : (nI (B + e)) ≤ (nI (B + k)) := of_decide_eq_true c_26
            have n_26 : B + e ≤ B + k := (le_nI (p := B + e) (n := B + k) (by omega) (by omega)).mp c_26
            refine ps_st (S' := (39, [], [.int (-1)], M)) rfl rfl rfl ?_
            exact ps_ret rfl rfl (Or.inl ⟨by
                have hb : s_br c (e - i0) i0 = k := by rw [← hs, s_br_st (i := k) (by omega), if_neg (by omega)]
                unfold s_ty
                rw [hb]
                repeat' split
                all_goals first | rfl | (exfalso; omega), rfl, rfl⟩)
          · have c_26 : ¬ ((nI (B + e)) ≤ (nI (B + k))) := of_decide_eq_false c_26
            have n_26 : ¬ (B + e ≤ B + k) := fun h9 => c_26 ((le_nI (p := B + e) (n := B + k) (by omega) (by omega)).mpr h9)
            refine ps_st (S' := (30, [(0, .ref q), (1, .int (nI (B + i0))), (2, .int (nI (B + e))), (3, .int (nI (B + k)))], [.int (nI (B + k))], M)) rfl rfl rfl ?_
            refine ps_st (S' := (31, [(0, .ref q), (1, .int (nI (B + i0))), (2, .int (nI (B + e))), (3, .int (nI (B + k)))], [.int (nI (B + i0)), .int (nI (B + k))], M)) rfl rfl rfl ?_
            refine ps_st (S' := (32, [(0, .ref q), (1, .int (nI (B + i0))), (2, .int (nI (B + e))), (3, .int (nI (B + k)))], [.int ((nI (B + k)) - (nI (B + i0)))], M)) rfl rfl rfl ?_
            rw [nI_sub1 (p := B + k) (k := B + i0) (x := (nI (B + i0))) rfl (by omega) (by omega)]
            show pl _ _ _ (_, [(0, .ref q), (1, .int (nI (B + i0))), (2, .int (nI (B + e))), (3, .int (nI (B + k)))], [.int (nI ((B + k) - (B + i0)))], M) _
            refine ps_st (S' := (35, [(0, .ref q), (1, .int (nI (B + i0))), (2, .int (nI (B + e))), (3, .int (nI (B + k)))], [.int 255, .int (nI ((B + k) - (B + i0)))], M)) rfl rfl rfl ?_
            refine ps_if2 (S1 := (40, [(0, .ref q), (1, .int (nI (B + i0))), (2, .int (nI (B + e))), (3, .int (nI (B + k)))], [], M)) (S2 := (38, [], [], M)) rfl rfl rfl (fun c_35 => ?_) (fun c_35 => ?_)
            · have c_35 : (nI ((B + k) - (B + i0))) ≤ 255 := of_decide_eq_true c_35
              have n_35 : (B + k) - (B + i0) ≤ 255 := (le_nI (p := (B + k) - (B + i0)) (n := 255) (by omega) (by decide)).mp c_35
              refine ps_st (S' := (41, [(0, .ref q), (1, .int (nI (B + i0))), (2, .int (nI (B + e))), (3, .int (nI (B + k)))], [.ref q], M)) rfl rfl rfl ?_
              refine ps_get (S' := (44, [(0, .ref q), (1, .int (nI (B + i0))), (2, .int (nI (B + e))), (3, .int (nI (B + k)))], [.ref (qq 6)], M)) rfl h_q rfl rfl ?_
              refine ps_st (S' := (45, [(0, .ref q), (1, .int (nI (B + i0))), (2, .int (nI (B + e))), (3, .int (nI (B + k)))], [.int (nI (B + k)), .ref (qq 6)], M)) rfl rfl rfl ?_
              refine ps_ald (S' := (46, [(0, .ref q), (1, .int (nI (B + i0))), (2, .int (nI (B + e))), (3, .int (nI (B + k)))], [.int ((F 6) (Int32.toNatClampNeg (nI (B + k))))], M)) rfl h_qq_6 rfl (fun i0_45 i1_45 => ?_)
              have hb_45 := (hc (k) (by omega)).2
              rw [show ((F 6) (Int32.toNatClampNeg (nI (B + k)))) = (nI (c k)) from (congrArg (F 6) (nI_toNat (k := B + k) (by omega))).trans ((hc (k) (by omega)).1)]
              show pl _ _ _ (_, [(0, .ref q), (1, .int (nI (B + i0))), (2, .int (nI (B + e))), (3, .int (nI (B + k)))], [.int (nI (c k))], M) _
              refine pl_sw rfl (fun t_46 et_46 => ?_)
              have ht_46 : t_46 ∈ [160, 164, 194] := mi_sw_sub et_46 (by decide)
              simp only [List.mem_cons, List.not_mem_nil, or_false] at ht_46
              rcases ht_46 with rfl | rfl | rfl
              · show pl _ _ _ (160, [(0, .ref q), (1, .int (nI (B + i0))), (2, .int (nI (B + e))), (3, .int (nI (B + k)))], [], M) _
                have m_46 := sw_nat (t := c k) (by omega) et_46
                simp at m_46
                refine ps_st (S' := (161, [(0, .ref q), (1, .int (nI (B + i0))), (2, .int (nI (B + e))), (3, .int (nI (B + k)))], [.int (nI (B + k))], M)) rfl rfl rfl ?_
                refine ps_st (S' := (162, [(0, .ref q), (1, .int (nI (B + i0))), (2, .int (nI (B + e))), (3, .int (nI (B + k)))], [.int 1, .int (nI (B + k))], M)) rfl rfl rfl ?_
                refine ps_st (S' := (163, [(0, .ref q), (1, .int (nI (B + i0))), (2, .int (nI (B + e))), (3, .int (nI (B + k)))], [.int ((nI (B + k)) + 1)], M)) rfl rfl rfl ?_
                rw [nI_add1 (p := B + k) (k := 1) (x := 1) rfl (by omega)]
                show pl _ _ _ (_, [(0, .ref q), (1, .int (nI (B + i0))), (2, .int (nI (B + e))), (3, .int (nI (B + k)))], [.int (nI (B + k + 1))], M) _
                exact ps_reti rfl (Or.inr ⟨k + 1, by
                    have hb : s_br c (e - i0) i0 = k := by rw [← hs, s_br_st (i := k) (by omega), if_neg (by omega)]
                    unfold s_ty
                    rw [hb]
                    repeat' split
                    all_goals first | rfl | (exfalso; omega), rfl, rfl⟩)
              · show pl _ _ _ (164, [(0, .ref q), (1, .int (nI (B + i0))), (2, .int (nI (B + e))), (3, .int (nI (B + k)))], [], M) _
                have m_46 := sw_nat (t := c k) (by omega) et_46
                simp at m_46
                refine ps_st (S' := (165, [(0, .ref q), (1, .int (nI (B + i0))), (2, .int (nI (B + e))), (3, .int (nI (B + k)))], [.ref q], M)) rfl rfl rfl ?_
                refine ps_st (S' := (166, [(0, .ref q), (1, .int (nI (B + i0))), (2, .int (nI (B + e))), (3, .int (nI (B + k)))], [.int (nI (B + k)), .ref q], M)) rfl rfl rfl ?_
                refine ps_st (S' := (167, [(0, .ref q), (1, .int (nI (B + i0))), (2, .int (nI (B + e))), (3, .int (nI (B + k)))], [.int 1, .int (nI (B + k)), .ref q], M)) rfl rfl rfl ?_
                refine ps_st (S' := (168, [(0, .ref q), (1, .int (nI (B + i0))), (2, .int (nI (B + e))), (3, .int (nI (B + k)))], [.int ((nI (B + k)) + 1), .ref q], M)) rfl rfl rfl ?_
                rw [nI_add1 (p := B + k) (k := 1) (x := 1) rfl (by omega)]
                show pl _ _ _ (_, [(0, .ref q), (1, .int (nI (B + i0))), (2, .int (nI (B + e))), (3, .int (nI (B + k)))], [.int (nI (B + k + 1)), .ref q], M) _
                refine ps_st (S' := (169, [(0, .ref q), (1, .int (nI (B + i0))), (2, .int (nI (B + e))), (3, .int (nI (B + k)))], [.int (nI (B + e)), .int (nI (B + k + 1)), .ref q], M)) rfl rfl rfl ?_
                refine pl_call (a := [.ref q, .int (nI (B + k + 1)), .int (nI (B + e))]) (rest := []) rfl rfl rfl (dy_nameEnd (q := q) (c := c) (B := B) (e := e) (i0 := (k + 1)) (hP) (hm) (hc) (by omega)) (fun v5 M6 q7 => ?_)
                rcases q7 with q7 | q7
                · skip
                  obtain ⟨q169_s, rfl, rfl⟩ := q7
                  show pl _ _ _ (172, [(0, .ref q), (1, .int (nI (B + i0))), (2, .int (nI (B + e))), (3, .int (nI (B + k)))], [.int (-1)], M) _
                  refine ps_st (S' := (174, [(4, .int (-1)), (0, .ref q), (1, .int (nI (B + i0))), (2, .int (nI (B + e))), (3, .int (nI (B + k)))], [], M)) rfl rfl rfl ?_
                  refine ps_st (S' := (176, [(4, .int (-1)), (0, .ref q), (1, .int (nI (B + i0))), (2, .int (nI (B + e))), (3, .int (nI (B + k)))], [.int (-1)], M)) rfl rfl rfl ?_
                  refine ps_if (S1 := (185, [], [], M)) (S2 := (179, [(4, .int (-1)), (0, .ref q), (1, .int (nI (B + i0))), (2, .int (nI (B + e))), (3, .int (nI (B + k)))], [], M)) rfl rfl rfl (fun c_176 => ?_) (fun c_176 => ?_)
                  rotate_left
                  · exact absurd (by decide) (of_decide_eq_false c_176)
                  refine ps_st (S' := (186, [], [.int (-1)], M)) rfl rfl rfl ?_
                  refine ps_st (S' := (193, [], [.int (-1)], M)) rfl rfl rfl ?_
                  exact ps_ret rfl rfl (Or.inl ⟨by
                      have hb : s_br c (e - i0) i0 = k := by rw [← hs, s_br_st (i := k) (by omega), if_neg (by omega)]
                      unfold s_ty
                      rw [hb]
                      rw [q169_s]
                      dsimp only
                      repeat' split
                      all_goals first | rfl | (exfalso; omega), rfl, rfl⟩)
                · skip
                  obtain ⟨x8, q169_s, rfl, rfl⟩ := q7
                  show pl _ _ _ (172, [(0, .ref q), (1, .int (nI (B + i0))), (2, .int (nI (B + e))), (3, .int (nI (B + k)))], [.int (nI (B + x8))], M) _
                  have hl_169 := s_nm_le q169_s
                  refine ps_st (S' := (174, [(4, .int (nI (B + x8))), (0, .ref q), (1, .int (nI (B + i0))), (2, .int (nI (B + e))), (3, .int (nI (B + k)))], [], M)) rfl rfl rfl ?_
                  refine ps_st (S' := (176, [(4, .int (nI (B + x8))), (0, .ref q), (1, .int (nI (B + i0))), (2, .int (nI (B + e))), (3, .int (nI (B + k)))], [.int (nI (B + x8))], M)) rfl rfl rfl ?_
                  refine ps_if (S1 := (185, [], [], M)) (S2 := (179, [(4, .int (nI (B + x8))), (0, .ref q), (1, .int (nI (B + i0))), (2, .int (nI (B + e))), (3, .int (nI (B + k)))], [], M)) rfl rfl rfl (fun c_176 => ?_) (fun c_176 => ?_)
                  · exact absurd (of_decide_eq_true c_176) (nI_n0 (by omega))
                  refine ps_st (S' := (181, [(4, .int (nI (B + x8))), (0, .ref q), (1, .int (nI (B + i0))), (2, .int (nI (B + e))), (3, .int (nI (B + k)))], [.int (nI (B + x8))], M)) rfl rfl rfl ?_
                  refine ps_st (S' := (182, [(4, .int (nI (B + x8))), (0, .ref q), (1, .int (nI (B + i0))), (2, .int (nI (B + e))), (3, .int (nI (B + k)))], [.int (nI (B + e)), .int (nI (B + x8))], M)) rfl rfl rfl ?_
                  refine ps_if2 (S1 := (189, [(4, .int (nI (B + x8))), (0, .ref q), (1, .int (nI (B + i0))), (2, .int (nI (B + e))), (3, .int (nI (B + k)))], [], M)) (S2 := (185, [], [], M)) rfl rfl rfl (fun c_182 => ?_) (fun c_182 => ?_)
                  · have c_182 : (nI (B + x8)) < (nI (B + e)) := of_decide_eq_true c_182
                    have n_182 : B + x8 < B + e := (lt_nI (p := B + x8) (n := B + e) (by omega) (by omega)).mp c_182
                    refine ps_st (S' := (191, [(4, .int (nI (B + x8))), (0, .ref q), (1, .int (nI (B + i0))), (2, .int (nI (B + e))), (3, .int (nI (B + k)))], [.int (nI (B + x8))], M)) rfl rfl rfl ?_
                    refine ps_st (S' := (192, [(4, .int (nI (B + x8))), (0, .ref q), (1, .int (nI (B + i0))), (2, .int (nI (B + e))), (3, .int (nI (B + k)))], [.int 1, .int (nI (B + x8))], M)) rfl rfl rfl ?_
                    refine ps_st (S' := (193, [], [.int ((nI (B + x8)) + 1)], M)) rfl rfl rfl ?_
                    rw [nI_add1 (p := B + x8) (k := 1) (x := 1) rfl (by omega)]
                    show pl _ _ _ (_, [], [.int (nI (B + x8 + 1))], M) _
                    exact ps_reti rfl (Or.inr ⟨x8 + 1, by
                        have hb : s_br c (e - i0) i0 = k := by rw [← hs, s_br_st (i := k) (by omega), if_neg (by omega)]
                        unfold s_ty
                        rw [hb]
                        rw [q169_s]
                        dsimp only
                        repeat' split
                        all_goals first | rfl | (exfalso; omega), rfl, rfl⟩)
                  · have c_182 : ¬ ((nI (B + x8)) < (nI (B + e))) := of_decide_eq_false c_182
                    have n_182 : ¬ (B + x8 < B + e) := fun h9 => c_182 ((lt_nI (p := B + x8) (n := B + e) (by omega) (by omega)).mpr h9)
                    refine ps_st (S' := (186, [], [.int (-1)], M)) rfl rfl rfl ?_
                    refine ps_st (S' := (193, [], [.int (-1)], M)) rfl rfl rfl ?_
                    exact ps_ret rfl rfl (Or.inl ⟨by
                        have hb : s_br c (e - i0) i0 = k := by rw [← hs, s_br_st (i := k) (by omega), if_neg (by omega)]
                        unfold s_ty
                        rw [hb]
                        rw [q169_s]
                        dsimp only
                        repeat' split
                        all_goals first | rfl | (exfalso; omega), rfl, rfl⟩)
              · show pl _ _ _ (194, [(0, .ref q), (1, .int (nI (B + i0))), (2, .int (nI (B + e))), (3, .int (nI (B + k)))], [], M) _
                have m_46 := sw_nat (t := c k) (by omega) et_46
                simp at m_46
                refine ps_st (S' := (195, [(0, .ref q), (1, .int (nI (B + i0))), (2, .int (nI (B + e))), (3, .int (nI (B + k)))], [.int (-1)], M)) rfl rfl rfl ?_
                exact ps_ret rfl rfl (Or.inl ⟨by
                    have hb : s_br c (e - i0) i0 = k := by rw [← hs, s_br_st (i := k) (by omega), if_neg (by omega)]
                    unfold s_ty
                    rw [hb]
                    repeat' split
                    all_goals first | rfl | (exfalso; omega), rfl, rfl⟩)
            · have c_35 : ¬ ((nI ((B + k) - (B + i0))) ≤ 255) := of_decide_eq_false c_35
              have n_35 : ¬ ((B + k) - (B + i0) ≤ 255) := fun h9 => c_35 ((le_nI (p := (B + k) - (B + i0)) (n := 255) (by omega) (by decide)).mpr h9)
              refine ps_st (S' := (39, [], [.int (-1)], M)) rfl rfl rfl ?_
              exact ps_ret rfl rfl (Or.inl ⟨by
                  have hb : s_br c (e - i0) i0 = k := by rw [← hs, s_br_st (i := k) (by omega), if_neg (by omega)]
                  unfold s_ty
                  rw [hb]
                  repeat' split
                  all_goals first | rfl | (exfalso; omega), rfl, rfl⟩)
        · have c_15 : ¬ (¬ (nI (c k)) = 91) := of_decide_eq_false c_15
          have n_15 : c k = 91 := (eq_nI (p := c k) (n := 91) (by omega) (by decide)).mp (Decidable.not_not.mp c_15)
          refine ps_st (S' := (21, [(3, .int ((nI (B + k)) + 1)), (0, .ref q), (1, .int (nI (B + i0))), (2, .int (nI (B + e)))], [], M)) rfl rfl rfl ?_
          rw [nI_add1 (p := B + k) (k := 1) (x := 1) rfl (by omega)]
          show pl _ _ _ (_, [(3, .int (nI (B + k + 1))), (0, .ref q), (1, .int (nI (B + i0))), (2, .int (nI (B + e)))], [], M) _
          refine ps_st (S' := (2, [(0, .ref q), (1, .int (nI (B + i0))), (2, .int (nI (B + e))), (3, .int (nI (B + k + 1)))], [], M)) rfl rfl rfl ?_
          exact ih (k + 1)  (by omega) (by
              rw [← hs, s_br_st (i := k) (by omega), if_pos (by omega)])
  refine ps_st (S' := (1, [(0, .ref q), (1, .int (nI (B + i0))), (2, .int (nI (B + e)))], [.int (nI (B + i0))], M)) rfl rfl rfl ?_
  refine ps_st (S' := (2, [(0, .ref q), (1, .int (nI (B + i0))), (2, .int (nI (B + e))), (3, .int (nI (B + i0)))], [], M)) rfl rfl rfl ?_
  exact (LL kf) (i0)  (by omega) (rfl)
theorem dy_places {g : xe_G} {M : mi_H} {x : Nat}  (hx : x < 65536) : pt (mT g) 130 [.int (nI x)] M (fun v M' => (v = some (.int (nI (pW x))) ∧ M = M')) := by
  refine (ct_placesOfType (d := 1) (by decide)).pt.mono (fun v M' h => ⟨?_, h.2.symm⟩)
  rw [h.1]
  unfold pW
  by_cases h1 : x = 74
  · rw [if_pos (show nI x = 74 from (eq_nI (n := 74) (by omega) (by decide)).mpr h1), if_pos (by omega)]
    rfl
  · rw [if_neg (show ¬ nI x = 74 from fun h9 => h1 ((eq_nI (n := 74) (by omega) (by decide)).mp h9))]
    by_cases h2 : x = 68
    · rw [if_pos (show nI x = 68 from (eq_nI (n := 68) (by omega) (by decide)).mpr h2), if_pos (by omega)]
      rfl
    · rw [if_neg (show ¬ nI x = 68 from fun h9 => h2 ((eq_nI (n := 68) (by omega) (by decide)).mp h9)), if_neg (by omega)]
      rfl
set_option maxHeartbeats 1000000 in
theorem dy_methodShape {g : xe_G} {M : mi_H} {q H m : Nat} {qq : Nat → Nat} {F : Nat → Nat → Int32} {sz cc : Int32} {c : Nat → Nat} {B e : Nat} {i0 : Nat}  (hP : PL M q sz H m qq F cc) (hm : B + e ≤ m ∧ m ≤ 65540) (hc : ∀ i, i < e → F 6 (B + i) = nI (c i) ∧ c i < 65536) (hi : i0 ≤ e) : pt (mT g) 126 [.ref q, .int (nI (B + i0)), .int (nI (B + e))] M (fun v M' => ((s_ms c e i0 = 0) ∧ v = some (.int (-1)) ∧ M = M') ∨ ((¬ s_ms c e i0 = 0) ∧ v = some (.int (nI (s_ms c e i0))) ∧ M = M')) := by
  refine pt_in (b := mb_126 g) rfl (fun kf => ?_)
  show pl (mT g) kf (mb_126 g).2 (0, [(0, .ref q), (1, .int (nI (B + i0))), (2, .int (nI (B + e)))], [], M) _
  have h_q := hP.1
  have h_qq_1 := hP.2.1 1 (by decide) (by decide)
  have h_qq_2 := hP.2.1 2 (by decide) (by decide)
  have h_qq_3 := hP.2.1 3 (by decide) (by decide)
  have h_qq_4 := hP.2.1 4 (by decide) (by decide)
  have h_qq_5 := hP.2.1 5 (by decide) (by decide)
  have h_qq_6 := hP.2.2
  have hpw : ∀ x, pW x ≤ 2 := fun x => by unfold pW; split <;> omega
  have LL : ∀ (kf : Nat), (∀ (i w : Nat), (i0 ≤ i ∧ i ≤ e) → (w ≤ 257) → (s_ar c e (e - i) i w = s_ar c e (e - i0) i0 0) →  pl (mT g) kf (mb_126 g).2 (5, [(0, .ref q), (2, .int (nI (B + e))), (3, .int (nI (B + i))), (4, .int (nI w))], [], M) (fun v M' => ((s_ms c e i0 = 0) ∧ v = some (.int (-1)) ∧ M = M') ∨ ((¬ s_ms c e i0 = 0) ∧ v = some (.int (nI (s_ms c e i0))) ∧ M = M'))) := by
    intro kf
    induction kf with
    | zero => exact (by intros; exact pl_0)
    | succ kf ih =>
      intro i w hi2 hw hs
      refine ps_st1 (S' := (7, [(0, .ref q), (2, .int (nI (B + e))), (3, .int (nI (B + i))), (4, .int (nI w))], [.int (nI w)], M)) rfl rfl rfl ?_
      refine ps_st (S' := (10, [(0, .ref q), (2, .int (nI (B + e))), (3, .int (nI (B + i))), (4, .int (nI w))], [.int 255, .int (nI w)], M)) rfl rfl rfl ?_
      refine ps_if2 (S1 := (56, [(0, .ref q), (2, .int (nI (B + e))), (3, .int (nI (B + i))), (4, .int (nI w))], [], M)) (S2 := (13, [(0, .ref q), (2, .int (nI (B + e))), (3, .int (nI (B + i))), (4, .int (nI w))], [], M)) rfl rfl rfl (fun c_10 => ?_) (fun c_10 => ?_)
      · have c_10 : 255 < (nI w) := of_decide_eq_true c_10
        have n_10 : 255 < w := (lt_nI (p := 255) (n := w) (by decide) (by omega)).mp c_10
        refine ps_st (S' := (57, [(0, .ref q), (2, .int (nI (B + e))), (3, .int (nI (B + i))), (4, .int (nI w))], [.int (nI (B + i))], M)) rfl rfl rfl ?_
        refine ps_st (S' := (58, [(0, .ref q), (2, .int (nI (B + e))), (3, .int (nI (B + i))), (4, .int (nI w))], [.int 1, .int (nI (B + i))], M)) rfl rfl rfl ?_
        refine ps_st (S' := (59, [(0, .ref q), (2, .int (nI (B + e))), (3, .int (nI (B + i))), (4, .int (nI w))], [.int ((nI (B + i)) + 1)], M)) rfl rfl rfl ?_
        rw [nI_add1 (p := B + i) (k := 1) (x := 1) rfl (by omega)]
        show pl _ _ _ (_, [(0, .ref q), (2, .int (nI (B + e))), (3, .int (nI (B + i))), (4, .int (nI w))], [.int (nI (B + i + 1))], M) _
        refine ps_st (S' := (61, [(5, .int (nI (B + i + 1))), (0, .ref q), (2, .int (nI (B + e))), (3, .int (nI (B + i))), (4, .int (nI w))], [], M)) rfl rfl rfl ?_
        refine ps_st (S' := (63, [(5, .int (nI (B + i + 1))), (0, .ref q), (2, .int (nI (B + e))), (3, .int (nI (B + i))), (4, .int (nI w))], [.int (nI (B + i + 1))], M)) rfl rfl rfl ?_
        refine ps_st (S' := (64, [(5, .int (nI (B + i + 1))), (0, .ref q), (2, .int (nI (B + e))), (3, .int (nI (B + i))), (4, .int (nI w))], [.int (nI (B + e)), .int (nI (B + i + 1))], M)) rfl rfl rfl ?_
        refine ps_if2 (S1 := (75, [], [], M)) (S2 := (67, [(5, .int (nI (B + i + 1))), (0, .ref q), (2, .int (nI (B + e))), (3, .int (nI (B + i))), (4, .int (nI w))], [], M)) rfl rfl rfl (fun c_64 => ?_) (fun c_64 => ?_)
        · have c_64 : (nI (B + e)) ≤ (nI (B + i + 1)) := of_decide_eq_true c_64
          have n_64 : B + e ≤ B + i + 1 := (le_nI (p := B + e) (n := B + i + 1) (by omega) (by omega)).mp c_64
          refine ps_st (S' := (76, [], [.int (-1)], M)) rfl rfl rfl ?_
          exact ps_ret rfl rfl (Or.inl ⟨by
              unfold s_ms
              rw [← hs]
              rw [s_ar_0 (by omega)]
              dsimp only
              repeat' split
              all_goals first | rfl | (exfalso; omega) | (exfalso; simp_all; done) | (exfalso; simp_all; omega), rfl, rfl⟩)
        · have c_64 : ¬ ((nI (B + e)) ≤ (nI (B + i + 1))) := of_decide_eq_false c_64
          have n_64 : ¬ (B + e ≤ B + i + 1) := fun h9 => c_64 ((le_nI (p := B + e) (n := B + i + 1) (by omega) (by omega)).mpr h9)
          refine ps_st (S' := (69, [(5, .int (nI (B + i + 1))), (0, .ref q), (2, .int (nI (B + e))), (3, .int (nI (B + i))), (4, .int (nI w))], [.int (nI w)], M)) rfl rfl rfl ?_
          refine ps_st (S' := (72, [(5, .int (nI (B + i + 1))), (0, .ref q), (2, .int (nI (B + e))), (3, .int (nI (B + i))), (4, .int (nI w))], [.int 255, .int (nI w)], M)) rfl rfl rfl ?_
          refine ps_if2 (S1 := (77, [(5, .int (nI (B + i + 1))), (0, .ref q), (2, .int (nI (B + e))), (3, .int (nI (B + i))), (4, .int (nI w))], [], M)) (S2 := (75, [], [], M)) rfl rfl rfl (fun c_72 => ?_) (fun c_72 => ?_)
          · have c_72 : (nI w) ≤ 255 := of_decide_eq_true c_72
            have n_72 : w ≤ 255 := (le_nI (p := w) (n := 255) (by omega) (by decide)).mp c_72
            refine ps_st (S' := (78, [(5, .int (nI (B + i + 1))), (0, .ref q), (2, .int (nI (B + e))), (3, .int (nI (B + i))), (4, .int (nI w))], [.ref q], M)) rfl rfl rfl ?_
            refine ps_get (S' := (81, [(5, .int (nI (B + i + 1))), (0, .ref q), (2, .int (nI (B + e))), (3, .int (nI (B + i))), (4, .int (nI w))], [.ref (qq 6)], M)) rfl h_q rfl rfl ?_
            refine ps_st (S' := (83, [(5, .int (nI (B + i + 1))), (0, .ref q), (2, .int (nI (B + e))), (3, .int (nI (B + i))), (4, .int (nI w))], [.int (nI (B + i + 1)), .ref (qq 6)], M)) rfl rfl rfl ?_
            refine ps_ald (S' := (84, [(5, .int (nI (B + i + 1))), (0, .ref q), (2, .int (nI (B + e))), (3, .int (nI (B + i))), (4, .int (nI w))], [.int ((F 6) (Int32.toNatClampNeg (nI (B + i + 1))))], M)) rfl h_qq_6 rfl (fun i0_83 i1_83 => ?_)
            have hb_83 := (hc (i + 1) (by omega)).2
            rw [show ((F 6) (Int32.toNatClampNeg (nI (B + i + 1)))) = (nI (c (i + 1))) from (congrArg (F 6) (nI_toNat (k := B + i + 1) (by omega))).trans ((hc (i + 1) (by omega)).1)]
            show pl _ _ _ (_, [(5, .int (nI (B + i + 1))), (0, .ref q), (2, .int (nI (B + e))), (3, .int (nI (B + i))), (4, .int (nI w))], [.int (nI (c (i + 1)))], M) _
            refine ps_st (S' := (86, [(5, .int (nI (B + i + 1))), (0, .ref q), (2, .int (nI (B + e))), (3, .int (nI (B + i))), (4, .int (nI w))], [.int 86, .int (nI (c (i + 1)))], M)) rfl rfl rfl ?_
            refine ps_if2 (S1 := (104, [(0, .ref q), (2, .int (nI (B + e))), (4, .int (nI w)), (5, .int (nI (B + i + 1)))], [], M)) (S2 := (89, [(5, .int (nI (B + i + 1))), (0, .ref q), (2, .int (nI (B + e))), (3, .int (nI (B + i))), (4, .int (nI w))], [], M)) rfl rfl rfl (fun c_86 => ?_) (fun c_86 => ?_)
            · have c_86 : ¬ (nI (c (i + 1))) = 86 := of_decide_eq_true c_86
              have n_86 : ¬ (c (i + 1) = 86) := fun h9 => c_86 ((eq_nI (p := c (i + 1)) (n := 86) (by omega) (by decide)).mpr h9)
              refine ps_st (S' := (105, [(0, .ref q), (2, .int (nI (B + e))), (4, .int (nI w)), (5, .int (nI (B + i + 1)))], [.ref q], M)) rfl rfl rfl ?_
              refine ps_st (S' := (107, [(0, .ref q), (2, .int (nI (B + e))), (4, .int (nI w)), (5, .int (nI (B + i + 1)))], [.int (nI (B + i + 1)), .ref q], M)) rfl rfl rfl ?_
              refine ps_st (S' := (108, [(0, .ref q), (2, .int (nI (B + e))), (4, .int (nI w)), (5, .int (nI (B + i + 1)))], [.int (nI (B + e)), .int (nI (B + i + 1)), .ref q], M)) rfl rfl rfl ?_
              refine pl_call (a := [.ref q, .int (nI (B + i + 1)), .int (nI (B + e))]) (rest := []) rfl rfl rfl (dy_typeEnd (q := q) (c := c) (B := B) (e := e) (i0 := (i + 1)) (hP) (hm) (hc) (by omega)) (fun v1 M2 q3 => ?_)
              rcases q3 with q3 | q3
              · skip
                obtain ⟨q108_s, rfl, rfl⟩ := q3
                show pl _ _ _ (111, [(0, .ref q), (2, .int (nI (B + e))), (4, .int (nI w)), (5, .int (nI (B + i + 1)))], [.int (-1)], M) _
                refine ps_st (S' := (112, [(0, .ref q), (2, .int (nI (B + e))), (4, .int (nI w)), (5, .int (nI (B + i + 1)))], [.int (nI (B + e)), .int (-1)], M)) rfl rfl rfl ?_
                refine ps_if2 (S1 := (117, [(0, .ref q), (2, .int (nI (B + e))), (4, .int (nI w)), (5, .int (nI (B + i + 1)))], [], M)) (S2 := (115, [(0, .ref q), (2, .int (nI (B + e))), (4, .int (nI w)), (5, .int (nI (B + i + 1)))], [], M)) rfl rfl rfl (fun c_112 => ?_) (fun c_112 => ?_)
                · exact absurd (of_decide_eq_true c_112) (m1_ne (by omega))
                refine ps_st (S' := (116, [(0, .ref q), (2, .int (nI (B + e))), (4, .int (nI w)), (5, .int (nI (B + i + 1)))], [.int (-1)], M)) rfl rfl rfl ?_
                exact ps_ret rfl rfl (Or.inl ⟨by
                    unfold s_ms
                    rw [← hs]
                    rw [s_ar_0 (by omega)]
                    dsimp only
                    rw [q108_s]
                    repeat' split
                    all_goals first | rfl | (exfalso; omega) | (exfalso; simp_all; done) | (exfalso; simp_all; omega), rfl, rfl⟩)
              · skip
                obtain ⟨x4, q108_s, rfl, rfl⟩ := q3
                show pl _ _ _ (111, [(0, .ref q), (2, .int (nI (B + e))), (4, .int (nI w)), (5, .int (nI (B + i + 1)))], [.int (nI (B + x4))], M) _
                have hl_108 := s_ty_le q108_s
                refine ps_st (S' := (112, [(0, .ref q), (2, .int (nI (B + e))), (4, .int (nI w)), (5, .int (nI (B + i + 1)))], [.int (nI (B + e)), .int (nI (B + x4))], M)) rfl rfl rfl ?_
                refine ps_if2 (S1 := (117, [(0, .ref q), (2, .int (nI (B + e))), (4, .int (nI w)), (5, .int (nI (B + i + 1)))], [], M)) (S2 := (115, [(0, .ref q), (2, .int (nI (B + e))), (4, .int (nI w)), (5, .int (nI (B + i + 1)))], [], M)) rfl rfl rfl (fun c_112 => ?_) (fun c_112 => ?_)
                · have c_112 : (nI (B + x4)) = (nI (B + e)) := of_decide_eq_true c_112
                  have n_112 : B + x4 = B + e := (eq_nI (p := B + x4) (n := B + e) (by omega) (by omega)).mp c_112
                  refine ps_st (S' := (120, [(0, .ref q), (2, .int (nI (B + e))), (4, .int (nI w)), (5, .int (nI (B + i + 1)))], [.int 4096], M)) rfl rfl rfl ?_
                  refine ps_st (S' := (123, [(0, .ref q), (2, .int (nI (B + e))), (4, .int (nI w)), (5, .int (nI (B + i + 1)))], [.int 1024, .int 4096], M)) rfl rfl rfl ?_
                  refine ps_st (S' := (124, [(0, .ref q), (2, .int (nI (B + e))), (4, .int (nI w)), (5, .int (nI (B + i + 1)))], [.ref q, .int 1024, .int 4096], M)) rfl rfl rfl ?_
                  refine ps_get (S' := (127, [(0, .ref q), (2, .int (nI (B + e))), (4, .int (nI w)), (5, .int (nI (B + i + 1)))], [.ref (qq 6), .int 1024, .int 4096], M)) rfl h_q rfl rfl ?_
                  refine ps_st (S' := (129, [(0, .ref q), (2, .int (nI (B + e))), (4, .int (nI w)), (5, .int (nI (B + i + 1)))], [.int (nI (B + i + 1)), .ref (qq 6), .int 1024, .int 4096], M)) rfl rfl rfl ?_
                  refine ps_ald (S' := (130, [(0, .ref q), (2, .int (nI (B + e))), (4, .int (nI w)), (5, .int (nI (B + i + 1)))], [.int ((F 6) (Int32.toNatClampNeg (nI (B + i + 1)))), .int 1024, .int 4096], M)) rfl h_qq_6 rfl (fun i0_129 i1_129 => ?_)
                  have hb_129 := (hc (i + 1) (by omega)).2
                  rw [show ((F 6) (Int32.toNatClampNeg (nI (B + i + 1)))) = (nI (c (i + 1))) from (congrArg (F 6) (nI_toNat (k := B + i + 1) (by omega))).trans ((hc (i + 1) (by omega)).1)]
                  show pl _ _ _ (_, [(0, .ref q), (2, .int (nI (B + e))), (4, .int (nI w)), (5, .int (nI (B + i + 1)))], [.int (nI (c (i + 1))), .int 1024, .int 4096], M) _
                  refine pl_call (a := [.int (nI (c (i + 1)))]) (rest := [.int 1024, .int 4096]) rfl rfl rfl (dy_places (x := (c (i + 1))) (by omega)) (fun v5 M6 q7 => ?_)
                  obtain ⟨rfl, rfl⟩ := q7
                  show pl _ _ _ (133, [(0, .ref q), (2, .int (nI (B + e))), (4, .int (nI w)), (5, .int (nI (B + i + 1)))], [.int (nI (pW (c (i + 1)))), .int 1024, .int 4096], M) _
                  have hp_130 := pW_le (c (i + 1))
                  refine ps_st (S' := (134, [(0, .ref q), (2, .int (nI (B + e))), (4, .int (nI w)), (5, .int (nI (B + i + 1)))], [.int (1024 * (nI (pW (c (i + 1))))), .int 4096], M)) rfl rfl rfl ?_
                  rw [nI_mul1 (p := 1024) (k := pW (c (i + 1))) (x := 1024) (y := (nI (pW (c (i + 1))))) rfl rfl (by omega)]
                  show pl _ _ _ (_, [(0, .ref q), (2, .int (nI (B + e))), (4, .int (nI w)), (5, .int (nI (B + i + 1)))], [.int (nI (1024 * (pW (c (i + 1))))), .int 4096], M) _
                  refine ps_st (S' := (135, [(0, .ref q), (2, .int (nI (B + e))), (4, .int (nI w)), (5, .int (nI (B + i + 1)))], [.int (4096 + (nI (1024 * (pW (c (i + 1))))))], M)) rfl rfl rfl ?_
                  rw [nI_add2 (p := 4096) (k := 1024 * (pW (c (i + 1)))) (x := 4096) (y := (nI (1024 * (pW (c (i + 1)))))) rfl rfl (by omega)]
                  show pl _ _ _ (_, [(0, .ref q), (2, .int (nI (B + e))), (4, .int (nI w)), (5, .int (nI (B + i + 1)))], [.int (nI (4096 + 1024 * (pW (c (i + 1)))))], M) _
                  refine ps_st (S' := (137, [(0, .ref q), (2, .int (nI (B + e))), (4, .int (nI w)), (5, .int (nI (B + i + 1)))], [.int (nI w), .int (nI (4096 + 1024 * (pW (c (i + 1)))))], M)) rfl rfl rfl ?_
                  refine ps_st (S' := (138, [(0, .ref q), (2, .int (nI (B + e))), (4, .int (nI w)), (5, .int (nI (B + i + 1)))], [.int ((nI (4096 + 1024 * (pW (c (i + 1))))) + (nI w))], M)) rfl rfl rfl ?_
                  rw [nI_add1 (p := 4096 + 1024 * (pW (c (i + 1)))) (k := w) (x := (nI w)) rfl (by omega)]
                  show pl _ _ _ (_, [(0, .ref q), (2, .int (nI (B + e))), (4, .int (nI w)), (5, .int (nI (B + i + 1)))], [.int (nI (4096 + 1024 * (pW (c (i + 1))) + w))], M) _
                  exact ps_reti rfl ((fun (he : s_ms c e i0 = 4096 + 1024 * pW (c (i + 1)) + w) => Or.inr ⟨by omega, by rw [he], rfl⟩) (by
                      unfold s_ms
                      rw [← hs]
                      rw [s_ar_0 (by omega)]
                      dsimp only
                      rw [if_neg (by omega), if_neg (by omega), if_pos (by rw [q108_s]; congr 1; omega)]))
                · have c_112 : ¬ ((nI (B + x4)) = (nI (B + e))) := of_decide_eq_false c_112
                  have n_112 : ¬ (B + x4 = B + e) := fun h9 => c_112 ((eq_nI (p := B + x4) (n := B + e) (by omega) (by omega)).mpr h9)
                  refine ps_st (S' := (116, [(0, .ref q), (2, .int (nI (B + e))), (4, .int (nI w)), (5, .int (nI (B + i + 1)))], [.int (-1)], M)) rfl rfl rfl ?_
                  exact ps_ret rfl rfl (Or.inl ⟨by
                      unfold s_ms
                      rw [← hs]
                      rw [s_ar_0 (by omega)]
                      dsimp only
                      rw [q108_s]
                      repeat' split
                      all_goals first | rfl | (exfalso; omega) | (exfalso; simp_all; done) | (exfalso; simp_all; omega), rfl, rfl⟩)
            · have c_86 : ¬ (¬ (nI (c (i + 1))) = 86) := of_decide_eq_false c_86
              have n_86 : c (i + 1) = 86 := (eq_nI (p := c (i + 1)) (n := 86) (by omega) (by decide)).mp (Decidable.not_not.mp c_86)
              refine ps_st (S' := (91, [(5, .int (nI (B + i + 1))), (0, .ref q), (2, .int (nI (B + e))), (3, .int (nI (B + i))), (4, .int (nI w))], [.int (nI (B + i + 1))], M)) rfl rfl rfl ?_
              refine ps_st (S' := (92, [(5, .int (nI (B + i + 1))), (0, .ref q), (2, .int (nI (B + e))), (3, .int (nI (B + i))), (4, .int (nI w))], [.int 1, .int (nI (B + i + 1))], M)) rfl rfl rfl ?_
              refine ps_st (S' := (93, [(5, .int (nI (B + i + 1))), (0, .ref q), (2, .int (nI (B + e))), (3, .int (nI (B + i))), (4, .int (nI w))], [.int ((nI (B + i + 1)) + 1)], M)) rfl rfl rfl ?_
              rw [nI_add1 (p := B + i + 1) (k := 1) (x := 1) rfl (by omega)]
              show pl _ _ _ (_, [(5, .int (nI (B + i + 1))), (0, .ref q), (2, .int (nI (B + e))), (3, .int (nI (B + i))), (4, .int (nI w))], [.int (nI (B + i + 2))], M) _
              refine ps_st (S' := (94, [(5, .int (nI (B + i + 1))), (0, .ref q), (2, .int (nI (B + e))), (3, .int (nI (B + i))), (4, .int (nI w))], [.int (nI (B + e)), .int (nI (B + i + 2))], M)) rfl rfl rfl ?_
              refine ps_if2 (S1 := (104, [(0, .ref q), (2, .int (nI (B + e))), (4, .int (nI w)), (5, .int (nI (B + i + 1)))], [], M)) (S2 := (97, [(5, .int (nI (B + i + 1))), (0, .ref q), (2, .int (nI (B + e))), (3, .int (nI (B + i))), (4, .int (nI w))], [], M)) rfl rfl rfl (fun c_94 => ?_) (fun c_94 => ?_)
              · have c_94 : ¬ (nI (B + i + 2)) = (nI (B + e)) := of_decide_eq_true c_94
                have n_94 : ¬ (B + i + 2 = B + e) := fun h9 => c_94 ((eq_nI (p := B + i + 2) (n := B + e) (by omega) (by omega)).mpr h9)
                refine ps_st (S' := (105, [(0, .ref q), (2, .int (nI (B + e))), (4, .int (nI w)), (5, .int (nI (B + i + 1)))], [.ref q], M)) rfl rfl rfl ?_
                refine ps_st (S' := (107, [(0, .ref q), (2, .int (nI (B + e))), (4, .int (nI w)), (5, .int (nI (B + i + 1)))], [.int (nI (B + i + 1)), .ref q], M)) rfl rfl rfl ?_
                refine ps_st (S' := (108, [(0, .ref q), (2, .int (nI (B + e))), (4, .int (nI w)), (5, .int (nI (B + i + 1)))], [.int (nI (B + e)), .int (nI (B + i + 1)), .ref q], M)) rfl rfl rfl ?_
                refine pl_call (a := [.ref q, .int (nI (B + i + 1)), .int (nI (B + e))]) (rest := []) rfl rfl rfl (dy_typeEnd (q := q) (c := c) (B := B) (e := e) (i0 := (i + 1)) (hP) (hm) (hc) (by omega)) (fun v8 M9 q10 => ?_)
                rcases q10 with q10 | q10
                · skip
                  obtain ⟨q108_s, rfl, rfl⟩ := q10
                  show pl _ _ _ (111, [(0, .ref q), (2, .int (nI (B + e))), (4, .int (nI w)), (5, .int (nI (B + i + 1)))], [.int (-1)], M) _
                  refine ps_st (S' := (112, [(0, .ref q), (2, .int (nI (B + e))), (4, .int (nI w)), (5, .int (nI (B + i + 1)))], [.int (nI (B + e)), .int (-1)], M)) rfl rfl rfl ?_
                  refine ps_if2 (S1 := (117, [(0, .ref q), (2, .int (nI (B + e))), (4, .int (nI w)), (5, .int (nI (B + i + 1)))], [], M)) (S2 := (115, [(0, .ref q), (2, .int (nI (B + e))), (4, .int (nI w)), (5, .int (nI (B + i + 1)))], [], M)) rfl rfl rfl (fun c_112 => ?_) (fun c_112 => ?_)
                  · exact absurd (of_decide_eq_true c_112) (m1_ne (by omega))
                  refine ps_st (S' := (116, [(0, .ref q), (2, .int (nI (B + e))), (4, .int (nI w)), (5, .int (nI (B + i + 1)))], [.int (-1)], M)) rfl rfl rfl ?_
                  exact ps_ret rfl rfl (Or.inl ⟨by
                      unfold s_ms
                      rw [← hs]
                      rw [s_ar_0 (by omega)]
                      dsimp only
                      rw [q108_s]
                      repeat' split
                      all_goals first | rfl | (exfalso; omega) | (exfalso; simp_all; done) | (exfalso; simp_all; omega), rfl, rfl⟩)
                · skip
                  obtain ⟨x11, q108_s, rfl, rfl⟩ := q10
                  show pl _ _ _ (111, [(0, .ref q), (2, .int (nI (B + e))), (4, .int (nI w)), (5, .int (nI (B + i + 1)))], [.int (nI (B + x11))], M) _
                  have hl_108 := s_ty_le q108_s
                  refine ps_st (S' := (112, [(0, .ref q), (2, .int (nI (B + e))), (4, .int (nI w)), (5, .int (nI (B + i + 1)))], [.int (nI (B + e)), .int (nI (B + x11))], M)) rfl rfl rfl ?_
                  refine ps_if2 (S1 := (117, [(0, .ref q), (2, .int (nI (B + e))), (4, .int (nI w)), (5, .int (nI (B + i + 1)))], [], M)) (S2 := (115, [(0, .ref q), (2, .int (nI (B + e))), (4, .int (nI w)), (5, .int (nI (B + i + 1)))], [], M)) rfl rfl rfl (fun c_112 => ?_) (fun c_112 => ?_)
                  · have c_112 : (nI (B + x11)) = (nI (B + e)) := of_decide_eq_true c_112
                    have n_112 : B + x11 = B + e := (eq_nI (p := B + x11) (n := B + e) (by omega) (by omega)).mp c_112
                    refine ps_st (S' := (120, [(0, .ref q), (2, .int (nI (B + e))), (4, .int (nI w)), (5, .int (nI (B + i + 1)))], [.int 4096], M)) rfl rfl rfl ?_
                    refine ps_st (S' := (123, [(0, .ref q), (2, .int (nI (B + e))), (4, .int (nI w)), (5, .int (nI (B + i + 1)))], [.int 1024, .int 4096], M)) rfl rfl rfl ?_
                    refine ps_st (S' := (124, [(0, .ref q), (2, .int (nI (B + e))), (4, .int (nI w)), (5, .int (nI (B + i + 1)))], [.ref q, .int 1024, .int 4096], M)) rfl rfl rfl ?_
                    refine ps_get (S' := (127, [(0, .ref q), (2, .int (nI (B + e))), (4, .int (nI w)), (5, .int (nI (B + i + 1)))], [.ref (qq 6), .int 1024, .int 4096], M)) rfl h_q rfl rfl ?_
                    refine ps_st (S' := (129, [(0, .ref q), (2, .int (nI (B + e))), (4, .int (nI w)), (5, .int (nI (B + i + 1)))], [.int (nI (B + i + 1)), .ref (qq 6), .int 1024, .int 4096], M)) rfl rfl rfl ?_
                    refine ps_ald (S' := (130, [(0, .ref q), (2, .int (nI (B + e))), (4, .int (nI w)), (5, .int (nI (B + i + 1)))], [.int ((F 6) (Int32.toNatClampNeg (nI (B + i + 1)))), .int 1024, .int 4096], M)) rfl h_qq_6 rfl (fun i0_129 i1_129 => ?_)
                    have hb_129 := (hc (i + 1) (by omega)).2
                    rw [show ((F 6) (Int32.toNatClampNeg (nI (B + i + 1)))) = (nI (c (i + 1))) from (congrArg (F 6) (nI_toNat (k := B + i + 1) (by omega))).trans ((hc (i + 1) (by omega)).1)]
                    show pl _ _ _ (_, [(0, .ref q), (2, .int (nI (B + e))), (4, .int (nI w)), (5, .int (nI (B + i + 1)))], [.int (nI (c (i + 1))), .int 1024, .int 4096], M) _
                    refine pl_call (a := [.int (nI (c (i + 1)))]) (rest := [.int 1024, .int 4096]) rfl rfl rfl (dy_places (x := (c (i + 1))) (by omega)) (fun v12 M13 q14 => ?_)
                    obtain ⟨rfl, rfl⟩ := q14
                    show pl _ _ _ (133, [(0, .ref q), (2, .int (nI (B + e))), (4, .int (nI w)), (5, .int (nI (B + i + 1)))], [.int (nI (pW (c (i + 1)))), .int 1024, .int 4096], M) _
                    have hp_130 := pW_le (c (i + 1))
                    refine ps_st (S' := (134, [(0, .ref q), (2, .int (nI (B + e))), (4, .int (nI w)), (5, .int (nI (B + i + 1)))], [.int (1024 * (nI (pW (c (i + 1))))), .int 4096], M)) rfl rfl rfl ?_
                    rw [nI_mul1 (p := 1024) (k := pW (c (i + 1))) (x := 1024) (y := (nI (pW (c (i + 1))))) rfl rfl (by omega)]
                    show pl _ _ _ (_, [(0, .ref q), (2, .int (nI (B + e))), (4, .int (nI w)), (5, .int (nI (B + i + 1)))], [.int (nI (1024 * (pW (c (i + 1))))), .int 4096], M) _
                    refine ps_st (S' := (135, [(0, .ref q), (2, .int (nI (B + e))), (4, .int (nI w)), (5, .int (nI (B + i + 1)))], [.int (4096 + (nI (1024 * (pW (c (i + 1))))))], M)) rfl rfl rfl ?_
                    rw [nI_add2 (p := 4096) (k := 1024 * (pW (c (i + 1)))) (x := 4096) (y := (nI (1024 * (pW (c (i + 1)))))) rfl rfl (by omega)]
                    show pl _ _ _ (_, [(0, .ref q), (2, .int (nI (B + e))), (4, .int (nI w)), (5, .int (nI (B + i + 1)))], [.int (nI (4096 + 1024 * (pW (c (i + 1)))))], M) _
                    refine ps_st (S' := (137, [(0, .ref q), (2, .int (nI (B + e))), (4, .int (nI w)), (5, .int (nI (B + i + 1)))], [.int (nI w), .int (nI (4096 + 1024 * (pW (c (i + 1)))))], M)) rfl rfl rfl ?_
                    refine ps_st (S' := (138, [(0, .ref q), (2, .int (nI (B + e))), (4, .int (nI w)), (5, .int (nI (B + i + 1)))], [.int ((nI (4096 + 1024 * (pW (c (i + 1))))) + (nI w))], M)) rfl rfl rfl ?_
                    rw [nI_add1 (p := 4096 + 1024 * (pW (c (i + 1)))) (k := w) (x := (nI w)) rfl (by omega)]
                    show pl _ _ _ (_, [(0, .ref q), (2, .int (nI (B + e))), (4, .int (nI w)), (5, .int (nI (B + i + 1)))], [.int (nI (4096 + 1024 * (pW (c (i + 1))) + w))], M) _
                    exact ps_reti rfl ((fun (he : s_ms c e i0 = 4096 + 1024 * pW (c (i + 1)) + w) => Or.inr ⟨by omega, by rw [he], rfl⟩) (by
                        unfold s_ms
                        rw [← hs]
                        rw [s_ar_0 (by omega)]
                        dsimp only
                        rw [if_neg (by omega), if_neg (by omega), if_pos (by rw [q108_s]; congr 1; omega)]))
                  · have c_112 : ¬ ((nI (B + x11)) = (nI (B + e))) := of_decide_eq_false c_112
                    have n_112 : ¬ (B + x11 = B + e) := fun h9 => c_112 ((eq_nI (p := B + x11) (n := B + e) (by omega) (by omega)).mpr h9)
                    refine ps_st (S' := (116, [(0, .ref q), (2, .int (nI (B + e))), (4, .int (nI w)), (5, .int (nI (B + i + 1)))], [.int (-1)], M)) rfl rfl rfl ?_
                    exact ps_ret rfl rfl (Or.inl ⟨by
                        unfold s_ms
                        rw [← hs]
                        rw [s_ar_0 (by omega)]
                        dsimp only
                        rw [q108_s]
                        repeat' split
                        all_goals first | rfl | (exfalso; omega) | (exfalso; simp_all; done) | (exfalso; simp_all; omega), rfl, rfl⟩)
              · have c_94 : ¬ (¬ (nI (B + i + 2)) = (nI (B + e))) := of_decide_eq_false c_94
                have n_94 : B + i + 2 = B + e := (eq_nI (p := B + i + 2) (n := B + e) (by omega) (by omega)).mp (Decidable.not_not.mp c_94)
                refine ps_st (S' := (100, [(5, .int (nI (B + i + 1))), (0, .ref q), (2, .int (nI (B + e))), (3, .int (nI (B + i))), (4, .int (nI w))], [.int 4096], M)) rfl rfl rfl ?_
                refine ps_st (S' := (102, [(5, .int (nI (B + i + 1))), (0, .ref q), (2, .int (nI (B + e))), (3, .int (nI (B + i))), (4, .int (nI w))], [.int (nI w), .int 4096], M)) rfl rfl rfl ?_
                refine ps_st (S' := (103, [(5, .int (nI (B + i + 1))), (0, .ref q), (2, .int (nI (B + e))), (3, .int (nI (B + i))), (4, .int (nI w))], [.int (4096 + (nI w))], M)) rfl rfl rfl ?_
                rw [nI_add2 (p := 4096) (k := w) (x := 4096) (y := (nI w)) rfl rfl (by omega)]
                show pl _ _ _ (_, [(5, .int (nI (B + i + 1))), (0, .ref q), (2, .int (nI (B + e))), (3, .int (nI (B + i))), (4, .int (nI w))], [.int (nI (4096 + w))], M) _
                exact ps_reti rfl ((fun (he : s_ms c e i0 = 4096 + w) => Or.inr ⟨by omega, by rw [he], rfl⟩) (by
                    unfold s_ms
                    rw [← hs]
                    rw [s_ar_0 (by omega)]
                    dsimp only
                    rw [if_neg (by omega), if_pos (by omega)]))
          · have c_72 : ¬ ((nI w) ≤ 255) := of_decide_eq_false c_72
            have n_72 : ¬ (w ≤ 255) := fun h9 => c_72 ((le_nI (p := w) (n := 255) (by omega) (by decide)).mpr h9)
            refine ps_st (S' := (76, [], [.int (-1)], M)) rfl rfl rfl ?_
            exact ps_ret rfl rfl (Or.inl ⟨by
                unfold s_ms
                rw [← hs]
                rw [s_ar_0 (by omega)]
                dsimp only
                repeat' split
                all_goals first | rfl | (exfalso; omega) | (exfalso; simp_all; done) | (exfalso; simp_all; omega), rfl, rfl⟩)
      · have c_10 : ¬ (255 < (nI w)) := of_decide_eq_false c_10
        have n_10 : ¬ (255 < w) := fun h9 => c_10 ((lt_nI (p := 255) (n := w) (by decide) (by omega)).mpr h9)
        refine ps_st (S' := (14, [(0, .ref q), (2, .int (nI (B + e))), (3, .int (nI (B + i))), (4, .int (nI w))], [.int (nI (B + i))], M)) rfl rfl rfl ?_
        refine ps_st (S' := (15, [(0, .ref q), (2, .int (nI (B + e))), (3, .int (nI (B + i))), (4, .int (nI w))], [.int (nI (B + e)), .int (nI (B + i))], M)) rfl rfl rfl ?_
        refine ps_if2 (S1 := (56, [(0, .ref q), (2, .int (nI (B + e))), (3, .int (nI (B + i))), (4, .int (nI w))], [], M)) (S2 := (18, [(0, .ref q), (2, .int (nI (B + e))), (3, .int (nI (B + i))), (4, .int (nI w))], [], M)) rfl rfl rfl (fun c_15 => ?_) (fun c_15 => ?_)
        · have c_15 : (nI (B + e)) ≤ (nI (B + i)) := of_decide_eq_true c_15
          have n_15 : B + e ≤ B + i := (le_nI (p := B + e) (n := B + i) (by omega) (by omega)).mp c_15
          refine ps_st (S' := (57, [(0, .ref q), (2, .int (nI (B + e))), (3, .int (nI (B + i))), (4, .int (nI w))], [.int (nI (B + i))], M)) rfl rfl rfl ?_
          refine ps_st (S' := (58, [(0, .ref q), (2, .int (nI (B + e))), (3, .int (nI (B + i))), (4, .int (nI w))], [.int 1, .int (nI (B + i))], M)) rfl rfl rfl ?_
          refine ps_st (S' := (59, [(0, .ref q), (2, .int (nI (B + e))), (3, .int (nI (B + i))), (4, .int (nI w))], [.int ((nI (B + i)) + 1)], M)) rfl rfl rfl ?_
          rw [nI_add1 (p := B + i) (k := 1) (x := 1) rfl (by omega)]
          show pl _ _ _ (_, [(0, .ref q), (2, .int (nI (B + e))), (3, .int (nI (B + i))), (4, .int (nI w))], [.int (nI (B + i + 1))], M) _
          refine ps_st (S' := (61, [(5, .int (nI (B + i + 1))), (0, .ref q), (2, .int (nI (B + e))), (3, .int (nI (B + i))), (4, .int (nI w))], [], M)) rfl rfl rfl ?_
          refine ps_st (S' := (63, [(5, .int (nI (B + i + 1))), (0, .ref q), (2, .int (nI (B + e))), (3, .int (nI (B + i))), (4, .int (nI w))], [.int (nI (B + i + 1))], M)) rfl rfl rfl ?_
          refine ps_st (S' := (64, [(5, .int (nI (B + i + 1))), (0, .ref q), (2, .int (nI (B + e))), (3, .int (nI (B + i))), (4, .int (nI w))], [.int (nI (B + e)), .int (nI (B + i + 1))], M)) rfl rfl rfl ?_
          refine ps_if2 (S1 := (75, [], [], M)) (S2 := (67, [(5, .int (nI (B + i + 1))), (0, .ref q), (2, .int (nI (B + e))), (3, .int (nI (B + i))), (4, .int (nI w))], [], M)) rfl rfl rfl (fun c_64 => ?_) (fun c_64 => ?_)
          · have c_64 : (nI (B + e)) ≤ (nI (B + i + 1)) := of_decide_eq_true c_64
            have n_64 : B + e ≤ B + i + 1 := (le_nI (p := B + e) (n := B + i + 1) (by omega) (by omega)).mp c_64
            refine ps_st (S' := (76, [], [.int (-1)], M)) rfl rfl rfl ?_
            exact ps_ret rfl rfl (Or.inl ⟨by
                unfold s_ms
                rw [← hs]
                rw [s_ar_0 (by omega)]
                dsimp only
                repeat' split
                all_goals first | rfl | (exfalso; omega) | (exfalso; simp_all; done) | (exfalso; simp_all; omega), rfl, rfl⟩)
          · have c_64 : ¬ ((nI (B + e)) ≤ (nI (B + i + 1))) := of_decide_eq_false c_64
            have n_64 : ¬ (B + e ≤ B + i + 1) := fun h9 => c_64 ((le_nI (p := B + e) (n := B + i + 1) (by omega) (by omega)).mpr h9)
            refine ps_st (S' := (69, [(5, .int (nI (B + i + 1))), (0, .ref q), (2, .int (nI (B + e))), (3, .int (nI (B + i))), (4, .int (nI w))], [.int (nI w)], M)) rfl rfl rfl ?_
            refine ps_st (S' := (72, [(5, .int (nI (B + i + 1))), (0, .ref q), (2, .int (nI (B + e))), (3, .int (nI (B + i))), (4, .int (nI w))], [.int 255, .int (nI w)], M)) rfl rfl rfl ?_
            refine ps_if2 (S1 := (77, [(5, .int (nI (B + i + 1))), (0, .ref q), (2, .int (nI (B + e))), (3, .int (nI (B + i))), (4, .int (nI w))], [], M)) (S2 := (75, [], [], M)) rfl rfl rfl (fun c_72 => ?_) (fun c_72 => ?_)
            · have c_72 : (nI w) ≤ 255 := of_decide_eq_true c_72
              have n_72 : w ≤ 255 := (le_nI (p := w) (n := 255) (by omega) (by decide)).mp c_72
              refine ps_st (S' := (78, [(5, .int (nI (B + i + 1))), (0, .ref q), (2, .int (nI (B + e))), (3, .int (nI (B + i))), (4, .int (nI w))], [.ref q], M)) rfl rfl rfl ?_
              refine ps_get (S' := (81, [(5, .int (nI (B + i + 1))), (0, .ref q), (2, .int (nI (B + e))), (3, .int (nI (B + i))), (4, .int (nI w))], [.ref (qq 6)], M)) rfl h_q rfl rfl ?_
              refine ps_st (S' := (83, [(5, .int (nI (B + i + 1))), (0, .ref q), (2, .int (nI (B + e))), (3, .int (nI (B + i))), (4, .int (nI w))], [.int (nI (B + i + 1)), .ref (qq 6)], M)) rfl rfl rfl ?_
              refine ps_ald (S' := (84, [(5, .int (nI (B + i + 1))), (0, .ref q), (2, .int (nI (B + e))), (3, .int (nI (B + i))), (4, .int (nI w))], [.int ((F 6) (Int32.toNatClampNeg (nI (B + i + 1))))], M)) rfl h_qq_6 rfl (fun i0_83 i1_83 => ?_)
              have hb_83 := (hc (i + 1) (by omega)).2
              rw [show ((F 6) (Int32.toNatClampNeg (nI (B + i + 1)))) = (nI (c (i + 1))) from (congrArg (F 6) (nI_toNat (k := B + i + 1) (by omega))).trans ((hc (i + 1) (by omega)).1)]
              show pl _ _ _ (_, [(5, .int (nI (B + i + 1))), (0, .ref q), (2, .int (nI (B + e))), (3, .int (nI (B + i))), (4, .int (nI w))], [.int (nI (c (i + 1)))], M) _
              refine ps_st (S' := (86, [(5, .int (nI (B + i + 1))), (0, .ref q), (2, .int (nI (B + e))), (3, .int (nI (B + i))), (4, .int (nI w))], [.int 86, .int (nI (c (i + 1)))], M)) rfl rfl rfl ?_
              refine ps_if2 (S1 := (104, [(0, .ref q), (2, .int (nI (B + e))), (4, .int (nI w)), (5, .int (nI (B + i + 1)))], [], M)) (S2 := (89, [(5, .int (nI (B + i + 1))), (0, .ref q), (2, .int (nI (B + e))), (3, .int (nI (B + i))), (4, .int (nI w))], [], M)) rfl rfl rfl (fun c_86 => ?_) (fun c_86 => ?_)
              · have c_86 : ¬ (nI (c (i + 1))) = 86 := of_decide_eq_true c_86
                have n_86 : ¬ (c (i + 1) = 86) := fun h9 => c_86 ((eq_nI (p := c (i + 1)) (n := 86) (by omega) (by decide)).mpr h9)
                refine ps_st (S' := (105, [(0, .ref q), (2, .int (nI (B + e))), (4, .int (nI w)), (5, .int (nI (B + i + 1)))], [.ref q], M)) rfl rfl rfl ?_
                refine ps_st (S' := (107, [(0, .ref q), (2, .int (nI (B + e))), (4, .int (nI w)), (5, .int (nI (B + i + 1)))], [.int (nI (B + i + 1)), .ref q], M)) rfl rfl rfl ?_
                refine ps_st (S' := (108, [(0, .ref q), (2, .int (nI (B + e))), (4, .int (nI w)), (5, .int (nI (B + i + 1)))], [.int (nI (B + e)), .int (nI (B + i + 1)), .ref q], M)) rfl rfl rfl ?_
                refine pl_call (a := [.ref q, .int (nI (B + i + 1)), .int (nI (B + e))]) (rest := []) rfl rfl rfl (dy_typeEnd (q := q) (c := c) (B := B) (e := e) (i0 := (i + 1)) (hP) (hm) (hc) (by omega)) (fun v15 M16 q17 => ?_)
                rcases q17 with q17 | q17
                · skip
                  obtain ⟨q108_s, rfl, rfl⟩ := q17
                  show pl _ _ _ (111, [(0, .ref q), (2, .int (nI (B + e))), (4, .int (nI w)), (5, .int (nI (B + i + 1)))], [.int (-1)], M) _
                  refine ps_st (S' := (112, [(0, .ref q), (2, .int (nI (B + e))), (4, .int (nI w)), (5, .int (nI (B + i + 1)))], [.int (nI (B + e)), .int (-1)], M)) rfl rfl rfl ?_
                  refine ps_if2 (S1 := (117, [(0, .ref q), (2, .int (nI (B + e))), (4, .int (nI w)), (5, .int (nI (B + i + 1)))], [], M)) (S2 := (115, [(0, .ref q), (2, .int (nI (B + e))), (4, .int (nI w)), (5, .int (nI (B + i + 1)))], [], M)) rfl rfl rfl (fun c_112 => ?_) (fun c_112 => ?_)
                  · exact absurd (of_decide_eq_true c_112) (m1_ne (by omega))
                  refine ps_st (S' := (116, [(0, .ref q), (2, .int (nI (B + e))), (4, .int (nI w)), (5, .int (nI (B + i + 1)))], [.int (-1)], M)) rfl rfl rfl ?_
                  exact ps_ret rfl rfl (Or.inl ⟨by
                      unfold s_ms
                      rw [← hs]
                      rw [s_ar_0 (by omega)]
                      dsimp only
                      rw [q108_s]
                      repeat' split
                      all_goals first | rfl | (exfalso; omega) | (exfalso; simp_all; done) | (exfalso; simp_all; omega), rfl, rfl⟩)
                · skip
                  obtain ⟨x18, q108_s, rfl, rfl⟩ := q17
                  show pl _ _ _ (111, [(0, .ref q), (2, .int (nI (B + e))), (4, .int (nI w)), (5, .int (nI (B + i + 1)))], [.int (nI (B + x18))], M) _
                  have hl_108 := s_ty_le q108_s
                  refine ps_st (S' := (112, [(0, .ref q), (2, .int (nI (B + e))), (4, .int (nI w)), (5, .int (nI (B + i + 1)))], [.int (nI (B + e)), .int (nI (B + x18))], M)) rfl rfl rfl ?_
                  refine ps_if2 (S1 := (117, [(0, .ref q), (2, .int (nI (B + e))), (4, .int (nI w)), (5, .int (nI (B + i + 1)))], [], M)) (S2 := (115, [(0, .ref q), (2, .int (nI (B + e))), (4, .int (nI w)), (5, .int (nI (B + i + 1)))], [], M)) rfl rfl rfl (fun c_112 => ?_) (fun c_112 => ?_)
                  · have c_112 : (nI (B + x18)) = (nI (B + e)) := of_decide_eq_true c_112
                    have n_112 : B + x18 = B + e := (eq_nI (p := B + x18) (n := B + e) (by omega) (by omega)).mp c_112
                    refine ps_st (S' := (120, [(0, .ref q), (2, .int (nI (B + e))), (4, .int (nI w)), (5, .int (nI (B + i + 1)))], [.int 4096], M)) rfl rfl rfl ?_
                    refine ps_st (S' := (123, [(0, .ref q), (2, .int (nI (B + e))), (4, .int (nI w)), (5, .int (nI (B + i + 1)))], [.int 1024, .int 4096], M)) rfl rfl rfl ?_
                    refine ps_st (S' := (124, [(0, .ref q), (2, .int (nI (B + e))), (4, .int (nI w)), (5, .int (nI (B + i + 1)))], [.ref q, .int 1024, .int 4096], M)) rfl rfl rfl ?_
                    refine ps_get (S' := (127, [(0, .ref q), (2, .int (nI (B + e))), (4, .int (nI w)), (5, .int (nI (B + i + 1)))], [.ref (qq 6), .int 1024, .int 4096], M)) rfl h_q rfl rfl ?_
                    refine ps_st (S' := (129, [(0, .ref q), (2, .int (nI (B + e))), (4, .int (nI w)), (5, .int (nI (B + i + 1)))], [.int (nI (B + i + 1)), .ref (qq 6), .int 1024, .int 4096], M)) rfl rfl rfl ?_
                    refine ps_ald (S' := (130, [(0, .ref q), (2, .int (nI (B + e))), (4, .int (nI w)), (5, .int (nI (B + i + 1)))], [.int ((F 6) (Int32.toNatClampNeg (nI (B + i + 1)))), .int 1024, .int 4096], M)) rfl h_qq_6 rfl (fun i0_129 i1_129 => ?_)
                    have hb_129 := (hc (i + 1) (by omega)).2
                    rw [show ((F 6) (Int32.toNatClampNeg (nI (B + i + 1)))) = (nI (c (i + 1))) from (congrArg (F 6) (nI_toNat (k := B + i + 1) (by omega))).trans ((hc (i + 1) (by omega)).1)]
                    show pl _ _ _ (_, [(0, .ref q), (2, .int (nI (B + e))), (4, .int (nI w)), (5, .int (nI (B + i + 1)))], [.int (nI (c (i + 1))), .int 1024, .int 4096], M) _
                    refine pl_call (a := [.int (nI (c (i + 1)))]) (rest := [.int 1024, .int 4096]) rfl rfl rfl (dy_places (x := (c (i + 1))) (by omega)) (fun v19 M20 q21 => ?_)
                    obtain ⟨rfl, rfl⟩ := q21
                    show pl _ _ _ (133, [(0, .ref q), (2, .int (nI (B + e))), (4, .int (nI w)), (5, .int (nI (B + i + 1)))], [.int (nI (pW (c (i + 1)))), .int 1024, .int 4096], M) _
                    have hp_130 := pW_le (c (i + 1))
                    refine ps_st (S' := (134, [(0, .ref q), (2, .int (nI (B + e))), (4, .int (nI w)), (5, .int (nI (B + i + 1)))], [.int (1024 * (nI (pW (c (i + 1))))), .int 4096], M)) rfl rfl rfl ?_
                    rw [nI_mul1 (p := 1024) (k := pW (c (i + 1))) (x := 1024) (y := (nI (pW (c (i + 1))))) rfl rfl (by omega)]
                    show pl _ _ _ (_, [(0, .ref q), (2, .int (nI (B + e))), (4, .int (nI w)), (5, .int (nI (B + i + 1)))], [.int (nI (1024 * (pW (c (i + 1))))), .int 4096], M) _
                    refine ps_st (S' := (135, [(0, .ref q), (2, .int (nI (B + e))), (4, .int (nI w)), (5, .int (nI (B + i + 1)))], [.int (4096 + (nI (1024 * (pW (c (i + 1))))))], M)) rfl rfl rfl ?_
                    rw [nI_add2 (p := 4096) (k := 1024 * (pW (c (i + 1)))) (x := 4096) (y := (nI (1024 * (pW (c (i + 1)))))) rfl rfl (by omega)]
                    show pl _ _ _ (_, [(0, .ref q), (2, .int (nI (B + e))), (4, .int (nI w)), (5, .int (nI (B + i + 1)))], [.int (nI (4096 + 1024 * (pW (c (i + 1)))))], M) _
                    refine ps_st (S' := (137, [(0, .ref q), (2, .int (nI (B + e))), (4, .int (nI w)), (5, .int (nI (B + i + 1)))], [.int (nI w), .int (nI (4096 + 1024 * (pW (c (i + 1)))))], M)) rfl rfl rfl ?_
                    refine ps_st (S' := (138, [(0, .ref q), (2, .int (nI (B + e))), (4, .int (nI w)), (5, .int (nI (B + i + 1)))], [.int ((nI (4096 + 1024 * (pW (c (i + 1))))) + (nI w))], M)) rfl rfl rfl ?_
                    rw [nI_add1 (p := 4096 + 1024 * (pW (c (i + 1)))) (k := w) (x := (nI w)) rfl (by omega)]
                    show pl _ _ _ (_, [(0, .ref q), (2, .int (nI (B + e))), (4, .int (nI w)), (5, .int (nI (B + i + 1)))], [.int (nI (4096 + 1024 * (pW (c (i + 1))) + w))], M) _
                    exact ps_reti rfl ((fun (he : s_ms c e i0 = 4096 + 1024 * pW (c (i + 1)) + w) => Or.inr ⟨by omega, by rw [he], rfl⟩) (by
                        unfold s_ms
                        rw [← hs]
                        rw [s_ar_0 (by omega)]
                        dsimp only
                        rw [if_neg (by omega), if_neg (by omega), if_pos (by rw [q108_s]; congr 1; omega)]))
                  · have c_112 : ¬ ((nI (B + x18)) = (nI (B + e))) := of_decide_eq_false c_112
                    have n_112 : ¬ (B + x18 = B + e) := fun h9 => c_112 ((eq_nI (p := B + x18) (n := B + e) (by omega) (by omega)).mpr h9)
                    refine ps_st (S' := (116, [(0, .ref q), (2, .int (nI (B + e))), (4, .int (nI w)), (5, .int (nI (B + i + 1)))], [.int (-1)], M)) rfl rfl rfl ?_
                    exact ps_ret rfl rfl (Or.inl ⟨by
                        unfold s_ms
                        rw [← hs]
                        rw [s_ar_0 (by omega)]
                        dsimp only
                        rw [q108_s]
                        repeat' split
                        all_goals first | rfl | (exfalso; omega) | (exfalso; simp_all; done) | (exfalso; simp_all; omega), rfl, rfl⟩)
              · have c_86 : ¬ (¬ (nI (c (i + 1))) = 86) := of_decide_eq_false c_86
                have n_86 : c (i + 1) = 86 := (eq_nI (p := c (i + 1)) (n := 86) (by omega) (by decide)).mp (Decidable.not_not.mp c_86)
                refine ps_st (S' := (91, [(5, .int (nI (B + i + 1))), (0, .ref q), (2, .int (nI (B + e))), (3, .int (nI (B + i))), (4, .int (nI w))], [.int (nI (B + i + 1))], M)) rfl rfl rfl ?_
                refine ps_st (S' := (92, [(5, .int (nI (B + i + 1))), (0, .ref q), (2, .int (nI (B + e))), (3, .int (nI (B + i))), (4, .int (nI w))], [.int 1, .int (nI (B + i + 1))], M)) rfl rfl rfl ?_
                refine ps_st (S' := (93, [(5, .int (nI (B + i + 1))), (0, .ref q), (2, .int (nI (B + e))), (3, .int (nI (B + i))), (4, .int (nI w))], [.int ((nI (B + i + 1)) + 1)], M)) rfl rfl rfl ?_
                rw [nI_add1 (p := B + i + 1) (k := 1) (x := 1) rfl (by omega)]
                show pl _ _ _ (_, [(5, .int (nI (B + i + 1))), (0, .ref q), (2, .int (nI (B + e))), (3, .int (nI (B + i))), (4, .int (nI w))], [.int (nI (B + i + 2))], M) _
                refine ps_st (S' := (94, [(5, .int (nI (B + i + 1))), (0, .ref q), (2, .int (nI (B + e))), (3, .int (nI (B + i))), (4, .int (nI w))], [.int (nI (B + e)), .int (nI (B + i + 2))], M)) rfl rfl rfl ?_
                refine ps_if2 (S1 := (104, [(0, .ref q), (2, .int (nI (B + e))), (4, .int (nI w)), (5, .int (nI (B + i + 1)))], [], M)) (S2 := (97, [(5, .int (nI (B + i + 1))), (0, .ref q), (2, .int (nI (B + e))), (3, .int (nI (B + i))), (4, .int (nI w))], [], M)) rfl rfl rfl (fun c_94 => ?_) (fun c_94 => ?_)
                · have c_94 : ¬ (nI (B + i + 2)) = (nI (B + e)) := of_decide_eq_true c_94
                  have n_94 : ¬ (B + i + 2 = B + e) := fun h9 => c_94 ((eq_nI (p := B + i + 2) (n := B + e) (by omega) (by omega)).mpr h9)
                  refine ps_st (S' := (105, [(0, .ref q), (2, .int (nI (B + e))), (4, .int (nI w)), (5, .int (nI (B + i + 1)))], [.ref q], M)) rfl rfl rfl ?_
                  refine ps_st (S' := (107, [(0, .ref q), (2, .int (nI (B + e))), (4, .int (nI w)), (5, .int (nI (B + i + 1)))], [.int (nI (B + i + 1)), .ref q], M)) rfl rfl rfl ?_
                  refine ps_st (S' := (108, [(0, .ref q), (2, .int (nI (B + e))), (4, .int (nI w)), (5, .int (nI (B + i + 1)))], [.int (nI (B + e)), .int (nI (B + i + 1)), .ref q], M)) rfl rfl rfl ?_
                  refine pl_call (a := [.ref q, .int (nI (B + i + 1)), .int (nI (B + e))]) (rest := []) rfl rfl rfl (dy_typeEnd (q := q) (c := c) (B := B) (e := e) (i0 := (i + 1)) (hP) (hm) (hc) (by omega)) (fun v22 M23 q24 => ?_)
                  rcases q24 with q24 | q24
                  · skip
                    obtain ⟨q108_s, rfl, rfl⟩ := q24
                    show pl _ _ _ (111, [(0, .ref q), (2, .int (nI (B + e))), (4, .int (nI w)), (5, .int (nI (B + i + 1)))], [.int (-1)], M) _
                    refine ps_st (S' := (112, [(0, .ref q), (2, .int (nI (B + e))), (4, .int (nI w)), (5, .int (nI (B + i + 1)))], [.int (nI (B + e)), .int (-1)], M)) rfl rfl rfl ?_
                    refine ps_if2 (S1 := (117, [(0, .ref q), (2, .int (nI (B + e))), (4, .int (nI w)), (5, .int (nI (B + i + 1)))], [], M)) (S2 := (115, [(0, .ref q), (2, .int (nI (B + e))), (4, .int (nI w)), (5, .int (nI (B + i + 1)))], [], M)) rfl rfl rfl (fun c_112 => ?_) (fun c_112 => ?_)
                    · exact absurd (of_decide_eq_true c_112) (m1_ne (by omega))
                    refine ps_st (S' := (116, [(0, .ref q), (2, .int (nI (B + e))), (4, .int (nI w)), (5, .int (nI (B + i + 1)))], [.int (-1)], M)) rfl rfl rfl ?_
                    exact ps_ret rfl rfl (Or.inl ⟨by
                        unfold s_ms
                        rw [← hs]
                        rw [s_ar_0 (by omega)]
                        dsimp only
                        rw [q108_s]
                        repeat' split
                        all_goals first | rfl | (exfalso; omega) | (exfalso; simp_all; done) | (exfalso; simp_all; omega), rfl, rfl⟩)
                  · skip
                    obtain ⟨x25, q108_s, rfl, rfl⟩ := q24
                    show pl _ _ _ (111, [(0, .ref q), (2, .int (nI (B + e))), (4, .int (nI w)), (5, .int (nI (B + i + 1)))], [.int (nI (B + x25))], M) _
                    have hl_108 := s_ty_le q108_s
                    refine ps_st (S' := (112, [(0, .ref q), (2, .int (nI (B + e))), (4, .int (nI w)), (5, .int (nI (B + i + 1)))], [.int (nI (B + e)), .int (nI (B + x25))], M)) rfl rfl rfl ?_
                    refine ps_if2 (S1 := (117, [(0, .ref q), (2, .int (nI (B + e))), (4, .int (nI w)), (5, .int (nI (B + i + 1)))], [], M)) (S2 := (115, [(0, .ref q), (2, .int (nI (B + e))), (4, .int (nI w)), (5, .int (nI (B + i + 1)))], [], M)) rfl rfl rfl (fun c_112 => ?_) (fun c_112 => ?_)
                    · have c_112 : (nI (B + x25)) = (nI (B + e)) := of_decide_eq_true c_112
                      have n_112 : B + x25 = B + e := (eq_nI (p := B + x25) (n := B + e) (by omega) (by omega)).mp c_112
                      refine ps_st (S' := (120, [(0, .ref q), (2, .int (nI (B + e))), (4, .int (nI w)), (5, .int (nI (B + i + 1)))], [.int 4096], M)) rfl rfl rfl ?_
                      refine ps_st (S' := (123, [(0, .ref q), (2, .int (nI (B + e))), (4, .int (nI w)), (5, .int (nI (B + i + 1)))], [.int 1024, .int 4096], M)) rfl rfl rfl ?_
                      refine ps_st (S' := (124, [(0, .ref q), (2, .int (nI (B + e))), (4, .int (nI w)), (5, .int (nI (B + i + 1)))], [.ref q, .int 1024, .int 4096], M)) rfl rfl rfl ?_
                      refine ps_get (S' := (127, [(0, .ref q), (2, .int (nI (B + e))), (4, .int (nI w)), (5, .int (nI (B + i + 1)))], [.ref (qq 6), .int 1024, .int 4096], M)) rfl h_q rfl rfl ?_
                      refine ps_st (S' := (129, [(0, .ref q), (2, .int (nI (B + e))), (4, .int (nI w)), (5, .int (nI (B + i + 1)))], [.int (nI (B + i + 1)), .ref (qq 6), .int 1024, .int 4096], M)) rfl rfl rfl ?_
                      refine ps_ald (S' := (130, [(0, .ref q), (2, .int (nI (B + e))), (4, .int (nI w)), (5, .int (nI (B + i + 1)))], [.int ((F 6) (Int32.toNatClampNeg (nI (B + i + 1)))), .int 1024, .int 4096], M)) rfl h_qq_6 rfl (fun i0_129 i1_129 => ?_)
                      have hb_129 := (hc (i + 1) (by omega)).2
                      rw [show ((F 6) (Int32.toNatClampNeg (nI (B + i + 1)))) = (nI (c (i + 1))) from (congrArg (F 6) (nI_toNat (k := B + i + 1) (by omega))).trans ((hc (i + 1) (by omega)).1)]
                      show pl _ _ _ (_, [(0, .ref q), (2, .int (nI (B + e))), (4, .int (nI w)), (5, .int (nI (B + i + 1)))], [.int (nI (c (i + 1))), .int 1024, .int 4096], M) _
                      refine pl_call (a := [.int (nI (c (i + 1)))]) (rest := [.int 1024, .int 4096]) rfl rfl rfl (dy_places (x := (c (i + 1))) (by omega)) (fun v26 M27 q28 => ?_)
                      obtain ⟨rfl, rfl⟩ := q28
                      show pl _ _ _ (133, [(0, .ref q), (2, .int (nI (B + e))), (4, .int (nI w)), (5, .int (nI (B + i + 1)))], [.int (nI (pW (c (i + 1)))), .int 1024, .int 4096], M) _
                      have hp_130 := pW_le (c (i + 1))
                      refine ps_st (S' := (134, [(0, .ref q), (2, .int (nI (B + e))), (4, .int (nI w)), (5, .int (nI (B + i + 1)))], [.int (1024 * (nI (pW (c (i + 1))))), .int 4096], M)) rfl rfl rfl ?_
                      rw [nI_mul1 (p := 1024) (k := pW (c (i + 1))) (x := 1024) (y := (nI (pW (c (i + 1))))) rfl rfl (by omega)]
                      show pl _ _ _ (_, [(0, .ref q), (2, .int (nI (B + e))), (4, .int (nI w)), (5, .int (nI (B + i + 1)))], [.int (nI (1024 * (pW (c (i + 1))))), .int 4096], M) _
                      refine ps_st (S' := (135, [(0, .ref q), (2, .int (nI (B + e))), (4, .int (nI w)), (5, .int (nI (B + i + 1)))], [.int (4096 + (nI (1024 * (pW (c (i + 1))))))], M)) rfl rfl rfl ?_
                      rw [nI_add2 (p := 4096) (k := 1024 * (pW (c (i + 1)))) (x := 4096) (y := (nI (1024 * (pW (c (i + 1)))))) rfl rfl (by omega)]
                      show pl _ _ _ (_, [(0, .ref q), (2, .int (nI (B + e))), (4, .int (nI w)), (5, .int (nI (B + i + 1)))], [.int (nI (4096 + 1024 * (pW (c (i + 1)))))], M) _
                      refine ps_st (S' := (137, [(0, .ref q), (2, .int (nI (B + e))), (4, .int (nI w)), (5, .int (nI (B + i + 1)))], [.int (nI w), .int (nI (4096 + 1024 * (pW (c (i + 1)))))], M)) rfl rfl rfl ?_
                      refine ps_st (S' := (138, [(0, .ref q), (2, .int (nI (B + e))), (4, .int (nI w)), (5, .int (nI (B + i + 1)))], [.int ((nI (4096 + 1024 * (pW (c (i + 1))))) + (nI w))], M)) rfl rfl rfl ?_
                      rw [nI_add1 (p := 4096 + 1024 * (pW (c (i + 1)))) (k := w) (x := (nI w)) rfl (by omega)]
                      show pl _ _ _ (_, [(0, .ref q), (2, .int (nI (B + e))), (4, .int (nI w)), (5, .int (nI (B + i + 1)))], [.int (nI (4096 + 1024 * (pW (c (i + 1))) + w))], M) _
                      exact ps_reti rfl ((fun (he : s_ms c e i0 = 4096 + 1024 * pW (c (i + 1)) + w) => Or.inr ⟨by omega, by rw [he], rfl⟩) (by
                          unfold s_ms
                          rw [← hs]
                          rw [s_ar_0 (by omega)]
                          dsimp only
                          rw [if_neg (by omega), if_neg (by omega), if_pos (by rw [q108_s]; congr 1; omega)]))
                    · have c_112 : ¬ ((nI (B + x25)) = (nI (B + e))) := of_decide_eq_false c_112
                      have n_112 : ¬ (B + x25 = B + e) := fun h9 => c_112 ((eq_nI (p := B + x25) (n := B + e) (by omega) (by omega)).mpr h9)
                      refine ps_st (S' := (116, [(0, .ref q), (2, .int (nI (B + e))), (4, .int (nI w)), (5, .int (nI (B + i + 1)))], [.int (-1)], M)) rfl rfl rfl ?_
                      exact ps_ret rfl rfl (Or.inl ⟨by
                          unfold s_ms
                          rw [← hs]
                          rw [s_ar_0 (by omega)]
                          dsimp only
                          rw [q108_s]
                          repeat' split
                          all_goals first | rfl | (exfalso; omega) | (exfalso; simp_all; done) | (exfalso; simp_all; omega), rfl, rfl⟩)
                · have c_94 : ¬ (¬ (nI (B + i + 2)) = (nI (B + e))) := of_decide_eq_false c_94
                  have n_94 : B + i + 2 = B + e := (eq_nI (p := B + i + 2) (n := B + e) (by omega) (by omega)).mp (Decidable.not_not.mp c_94)
                  refine ps_st (S' := (100, [(5, .int (nI (B + i + 1))), (0, .ref q), (2, .int (nI (B + e))), (3, .int (nI (B + i))), (4, .int (nI w))], [.int 4096], M)) rfl rfl rfl ?_
                  refine ps_st (S' := (102, [(5, .int (nI (B + i + 1))), (0, .ref q), (2, .int (nI (B + e))), (3, .int (nI (B + i))), (4, .int (nI w))], [.int (nI w), .int 4096], M)) rfl rfl rfl ?_
                  refine ps_st (S' := (103, [(5, .int (nI (B + i + 1))), (0, .ref q), (2, .int (nI (B + e))), (3, .int (nI (B + i))), (4, .int (nI w))], [.int (4096 + (nI w))], M)) rfl rfl rfl ?_
                  rw [nI_add2 (p := 4096) (k := w) (x := 4096) (y := (nI w)) rfl rfl (by omega)]
                  show pl _ _ _ (_, [(5, .int (nI (B + i + 1))), (0, .ref q), (2, .int (nI (B + e))), (3, .int (nI (B + i))), (4, .int (nI w))], [.int (nI (4096 + w))], M) _
                  exact ps_reti rfl ((fun (he : s_ms c e i0 = 4096 + w) => Or.inr ⟨by omega, by rw [he], rfl⟩) (by
                      unfold s_ms
                      rw [← hs]
                      rw [s_ar_0 (by omega)]
                      dsimp only
                      rw [if_neg (by omega), if_pos (by omega)]))
            · have c_72 : ¬ ((nI w) ≤ 255) := of_decide_eq_false c_72
              have n_72 : ¬ (w ≤ 255) := fun h9 => c_72 ((le_nI (p := w) (n := 255) (by omega) (by decide)).mpr h9)
              refine ps_st (S' := (76, [], [.int (-1)], M)) rfl rfl rfl ?_
              exact ps_ret rfl rfl (Or.inl ⟨by
                  unfold s_ms
                  rw [← hs]
                  rw [s_ar_0 (by omega)]
                  dsimp only
                  repeat' split
                  all_goals first | rfl | (exfalso; omega) | (exfalso; simp_all; done) | (exfalso; simp_all; omega), rfl, rfl⟩)
        · have c_15 : ¬ ((nI (B + e)) ≤ (nI (B + i))) := of_decide_eq_false c_15
          have n_15 : ¬ (B + e ≤ B + i) := fun h9 => c_15 ((le_nI (p := B + e) (n := B + i) (by omega) (by omega)).mpr h9)
          refine ps_st (S' := (19, [(0, .ref q), (2, .int (nI (B + e))), (3, .int (nI (B + i))), (4, .int (nI w))], [.ref q], M)) rfl rfl rfl ?_
          refine ps_get (S' := (22, [(0, .ref q), (2, .int (nI (B + e))), (3, .int (nI (B + i))), (4, .int (nI w))], [.ref (qq 6)], M)) rfl h_q rfl rfl ?_
          refine ps_st (S' := (23, [(0, .ref q), (2, .int (nI (B + e))), (3, .int (nI (B + i))), (4, .int (nI w))], [.int (nI (B + i)), .ref (qq 6)], M)) rfl rfl rfl ?_
          refine ps_ald (S' := (24, [(0, .ref q), (2, .int (nI (B + e))), (3, .int (nI (B + i))), (4, .int (nI w))], [.int ((F 6) (Int32.toNatClampNeg (nI (B + i))))], M)) rfl h_qq_6 rfl (fun i0_23 i1_23 => ?_)
          have hb_23 := (hc (i) (by omega)).2
          rw [show ((F 6) (Int32.toNatClampNeg (nI (B + i)))) = (nI (c i)) from (congrArg (F 6) (nI_toNat (k := B + i) (by omega))).trans ((hc (i) (by omega)).1)]
          show pl _ _ _ (_, [(0, .ref q), (2, .int (nI (B + e))), (3, .int (nI (B + i))), (4, .int (nI w))], [.int (nI (c i))], M) _
          refine ps_st (S' := (26, [(0, .ref q), (2, .int (nI (B + e))), (3, .int (nI (B + i))), (4, .int (nI w))], [.int 41, .int (nI (c i))], M)) rfl rfl rfl ?_
          refine ps_if2 (S1 := (56, [(0, .ref q), (2, .int (nI (B + e))), (3, .int (nI (B + i))), (4, .int (nI w))], [], M)) (S2 := (29, [(0, .ref q), (2, .int (nI (B + e))), (3, .int (nI (B + i))), (4, .int (nI w))], [], M)) rfl rfl rfl (fun c_26 => ?_) (fun c_26 => ?_)
          · have c_26 : (nI (c i)) = 41 := of_decide_eq_true c_26
            have n_26 : c i = 41 := (eq_nI (p := c i) (n := 41) (by omega) (by decide)).mp c_26
            refine ps_st (S' := (57, [(0, .ref q), (2, .int (nI (B + e))), (3, .int (nI (B + i))), (4, .int (nI w))], [.int (nI (B + i))], M)) rfl rfl rfl ?_
            refine ps_st (S' := (58, [(0, .ref q), (2, .int (nI (B + e))), (3, .int (nI (B + i))), (4, .int (nI w))], [.int 1, .int (nI (B + i))], M)) rfl rfl rfl ?_
            refine ps_st (S' := (59, [(0, .ref q), (2, .int (nI (B + e))), (3, .int (nI (B + i))), (4, .int (nI w))], [.int ((nI (B + i)) + 1)], M)) rfl rfl rfl ?_
            rw [nI_add1 (p := B + i) (k := 1) (x := 1) rfl (by omega)]
            show pl _ _ _ (_, [(0, .ref q), (2, .int (nI (B + e))), (3, .int (nI (B + i))), (4, .int (nI w))], [.int (nI (B + i + 1))], M) _
            refine ps_st (S' := (61, [(5, .int (nI (B + i + 1))), (0, .ref q), (2, .int (nI (B + e))), (3, .int (nI (B + i))), (4, .int (nI w))], [], M)) rfl rfl rfl ?_
            refine ps_st (S' := (63, [(5, .int (nI (B + i + 1))), (0, .ref q), (2, .int (nI (B + e))), (3, .int (nI (B + i))), (4, .int (nI w))], [.int (nI (B + i + 1))], M)) rfl rfl rfl ?_
            refine ps_st (S' := (64, [(5, .int (nI (B + i + 1))), (0, .ref q), (2, .int (nI (B + e))), (3, .int (nI (B + i))), (4, .int (nI w))], [.int (nI (B + e)), .int (nI (B + i + 1))], M)) rfl rfl rfl ?_
            refine ps_if2 (S1 := (75, [], [], M)) (S2 := (67, [(5, .int (nI (B + i + 1))), (0, .ref q), (2, .int (nI (B + e))), (3, .int (nI (B + i))), (4, .int (nI w))], [], M)) rfl rfl rfl (fun c_64 => ?_) (fun c_64 => ?_)
            · have c_64 : (nI (B + e)) ≤ (nI (B + i + 1)) := of_decide_eq_true c_64
              have n_64 : B + e ≤ B + i + 1 := (le_nI (p := B + e) (n := B + i + 1) (by omega) (by omega)).mp c_64
              refine ps_st (S' := (76, [], [.int (-1)], M)) rfl rfl rfl ?_
              exact ps_ret rfl rfl (Or.inl ⟨by
                  unfold s_ms
                  rw [← hs]
                  rw [s_ar_0 (by omega)]
                  dsimp only
                  repeat' split
                  all_goals first | rfl | (exfalso; omega) | (exfalso; simp_all; done) | (exfalso; simp_all; omega), rfl, rfl⟩)
            · have c_64 : ¬ ((nI (B + e)) ≤ (nI (B + i + 1))) := of_decide_eq_false c_64
              have n_64 : ¬ (B + e ≤ B + i + 1) := fun h9 => c_64 ((le_nI (p := B + e) (n := B + i + 1) (by omega) (by omega)).mpr h9)
              refine ps_st (S' := (69, [(5, .int (nI (B + i + 1))), (0, .ref q), (2, .int (nI (B + e))), (3, .int (nI (B + i))), (4, .int (nI w))], [.int (nI w)], M)) rfl rfl rfl ?_
              refine ps_st (S' := (72, [(5, .int (nI (B + i + 1))), (0, .ref q), (2, .int (nI (B + e))), (3, .int (nI (B + i))), (4, .int (nI w))], [.int 255, .int (nI w)], M)) rfl rfl rfl ?_
              refine ps_if2 (S1 := (77, [(5, .int (nI (B + i + 1))), (0, .ref q), (2, .int (nI (B + e))), (3, .int (nI (B + i))), (4, .int (nI w))], [], M)) (S2 := (75, [], [], M)) rfl rfl rfl (fun c_72 => ?_) (fun c_72 => ?_)
              · have c_72 : (nI w) ≤ 255 := of_decide_eq_true c_72
                have n_72 : w ≤ 255 := (le_nI (p := w) (n := 255) (by omega) (by decide)).mp c_72
                refine ps_st (S' := (78, [(5, .int (nI (B + i + 1))), (0, .ref q), (2, .int (nI (B + e))), (3, .int (nI (B + i))), (4, .int (nI w))], [.ref q], M)) rfl rfl rfl ?_
                refine ps_get (S' := (81, [(5, .int (nI (B + i + 1))), (0, .ref q), (2, .int (nI (B + e))), (3, .int (nI (B + i))), (4, .int (nI w))], [.ref (qq 6)], M)) rfl h_q rfl rfl ?_
                refine ps_st (S' := (83, [(5, .int (nI (B + i + 1))), (0, .ref q), (2, .int (nI (B + e))), (3, .int (nI (B + i))), (4, .int (nI w))], [.int (nI (B + i + 1)), .ref (qq 6)], M)) rfl rfl rfl ?_
                refine ps_ald (S' := (84, [(5, .int (nI (B + i + 1))), (0, .ref q), (2, .int (nI (B + e))), (3, .int (nI (B + i))), (4, .int (nI w))], [.int ((F 6) (Int32.toNatClampNeg (nI (B + i + 1))))], M)) rfl h_qq_6 rfl (fun i0_83 i1_83 => ?_)
                have hb_83 := (hc (i + 1) (by omega)).2
                rw [show ((F 6) (Int32.toNatClampNeg (nI (B + i + 1)))) = (nI (c (i + 1))) from (congrArg (F 6) (nI_toNat (k := B + i + 1) (by omega))).trans ((hc (i + 1) (by omega)).1)]
                show pl _ _ _ (_, [(5, .int (nI (B + i + 1))), (0, .ref q), (2, .int (nI (B + e))), (3, .int (nI (B + i))), (4, .int (nI w))], [.int (nI (c (i + 1)))], M) _
                refine ps_st (S' := (86, [(5, .int (nI (B + i + 1))), (0, .ref q), (2, .int (nI (B + e))), (3, .int (nI (B + i))), (4, .int (nI w))], [.int 86, .int (nI (c (i + 1)))], M)) rfl rfl rfl ?_
                refine ps_if2 (S1 := (104, [(0, .ref q), (2, .int (nI (B + e))), (4, .int (nI w)), (5, .int (nI (B + i + 1)))], [], M)) (S2 := (89, [(5, .int (nI (B + i + 1))), (0, .ref q), (2, .int (nI (B + e))), (3, .int (nI (B + i))), (4, .int (nI w))], [], M)) rfl rfl rfl (fun c_86 => ?_) (fun c_86 => ?_)
                · have c_86 : ¬ (nI (c (i + 1))) = 86 := of_decide_eq_true c_86
                  have n_86 : ¬ (c (i + 1) = 86) := fun h9 => c_86 ((eq_nI (p := c (i + 1)) (n := 86) (by omega) (by decide)).mpr h9)
                  refine ps_st (S' := (105, [(0, .ref q), (2, .int (nI (B + e))), (4, .int (nI w)), (5, .int (nI (B + i + 1)))], [.ref q], M)) rfl rfl rfl ?_
                  refine ps_st (S' := (107, [(0, .ref q), (2, .int (nI (B + e))), (4, .int (nI w)), (5, .int (nI (B + i + 1)))], [.int (nI (B + i + 1)), .ref q], M)) rfl rfl rfl ?_
                  refine ps_st (S' := (108, [(0, .ref q), (2, .int (nI (B + e))), (4, .int (nI w)), (5, .int (nI (B + i + 1)))], [.int (nI (B + e)), .int (nI (B + i + 1)), .ref q], M)) rfl rfl rfl ?_
                  refine pl_call (a := [.ref q, .int (nI (B + i + 1)), .int (nI (B + e))]) (rest := []) rfl rfl rfl (dy_typeEnd (q := q) (c := c) (B := B) (e := e) (i0 := (i + 1)) (hP) (hm) (hc) (by omega)) (fun v29 M30 q31 => ?_)
                  rcases q31 with q31 | q31
                  · skip
                    obtain ⟨q108_s, rfl, rfl⟩ := q31
                    show pl _ _ _ (111, [(0, .ref q), (2, .int (nI (B + e))), (4, .int (nI w)), (5, .int (nI (B + i + 1)))], [.int (-1)], M) _
                    refine ps_st (S' := (112, [(0, .ref q), (2, .int (nI (B + e))), (4, .int (nI w)), (5, .int (nI (B + i + 1)))], [.int (nI (B + e)), .int (-1)], M)) rfl rfl rfl ?_
                    refine ps_if2 (S1 := (117, [(0, .ref q), (2, .int (nI (B + e))), (4, .int (nI w)), (5, .int (nI (B + i + 1)))], [], M)) (S2 := (115, [(0, .ref q), (2, .int (nI (B + e))), (4, .int (nI w)), (5, .int (nI (B + i + 1)))], [], M)) rfl rfl rfl (fun c_112 => ?_) (fun c_112 => ?_)
                    · exact absurd (of_decide_eq_true c_112) (m1_ne (by omega))
                    refine ps_st (S' := (116, [(0, .ref q), (2, .int (nI (B + e))), (4, .int (nI w)), (5, .int (nI (B + i + 1)))], [.int (-1)], M)) rfl rfl rfl ?_
                    exact ps_ret rfl rfl (Or.inl ⟨by
                        unfold s_ms
                        rw [← hs]
                        rw [s_ar_0 (by omega)]
                        dsimp only
                        rw [q108_s]
                        repeat' split
                        all_goals first | rfl | (exfalso; omega) | (exfalso; simp_all; done) | (exfalso; simp_all; omega), rfl, rfl⟩)
                  · skip
                    obtain ⟨x32, q108_s, rfl, rfl⟩ := q31
                    show pl _ _ _ (111, [(0, .ref q), (2, .int (nI (B + e))), (4, .int (nI w)), (5, .int (nI (B + i + 1)))], [.int (nI (B + x32))], M) _
                    have hl_108 := s_ty_le q108_s
                    refine ps_st (S' := (112, [(0, .ref q), (2, .int (nI (B + e))), (4, .int (nI w)), (5, .int (nI (B + i + 1)))], [.int (nI (B + e)), .int (nI (B + x32))], M)) rfl rfl rfl ?_
                    refine ps_if2 (S1 := (117, [(0, .ref q), (2, .int (nI (B + e))), (4, .int (nI w)), (5, .int (nI (B + i + 1)))], [], M)) (S2 := (115, [(0, .ref q), (2, .int (nI (B + e))), (4, .int (nI w)), (5, .int (nI (B + i + 1)))], [], M)) rfl rfl rfl (fun c_112 => ?_) (fun c_112 => ?_)
                    · have c_112 : (nI (B + x32)) = (nI (B + e)) := of_decide_eq_true c_112
                      have n_112 : B + x32 = B + e := (eq_nI (p := B + x32) (n := B + e) (by omega) (by omega)).mp c_112
                      refine ps_st (S' := (120, [(0, .ref q), (2, .int (nI (B + e))), (4, .int (nI w)), (5, .int (nI (B + i + 1)))], [.int 4096], M)) rfl rfl rfl ?_
                      refine ps_st (S' := (123, [(0, .ref q), (2, .int (nI (B + e))), (4, .int (nI w)), (5, .int (nI (B + i + 1)))], [.int 1024, .int 4096], M)) rfl rfl rfl ?_
                      refine ps_st (S' := (124, [(0, .ref q), (2, .int (nI (B + e))), (4, .int (nI w)), (5, .int (nI (B + i + 1)))], [.ref q, .int 1024, .int 4096], M)) rfl rfl rfl ?_
                      refine ps_get (S' := (127, [(0, .ref q), (2, .int (nI (B + e))), (4, .int (nI w)), (5, .int (nI (B + i + 1)))], [.ref (qq 6), .int 1024, .int 4096], M)) rfl h_q rfl rfl ?_
                      refine ps_st (S' := (129, [(0, .ref q), (2, .int (nI (B + e))), (4, .int (nI w)), (5, .int (nI (B + i + 1)))], [.int (nI (B + i + 1)), .ref (qq 6), .int 1024, .int 4096], M)) rfl rfl rfl ?_
                      refine ps_ald (S' := (130, [(0, .ref q), (2, .int (nI (B + e))), (4, .int (nI w)), (5, .int (nI (B + i + 1)))], [.int ((F 6) (Int32.toNatClampNeg (nI (B + i + 1)))), .int 1024, .int 4096], M)) rfl h_qq_6 rfl (fun i0_129 i1_129 => ?_)
                      have hb_129 := (hc (i + 1) (by omega)).2
                      rw [show ((F 6) (Int32.toNatClampNeg (nI (B + i + 1)))) = (nI (c (i + 1))) from (congrArg (F 6) (nI_toNat (k := B + i + 1) (by omega))).trans ((hc (i + 1) (by omega)).1)]
                      show pl _ _ _ (_, [(0, .ref q), (2, .int (nI (B + e))), (4, .int (nI w)), (5, .int (nI (B + i + 1)))], [.int (nI (c (i + 1))), .int 1024, .int 4096], M) _
                      refine pl_call (a := [.int (nI (c (i + 1)))]) (rest := [.int 1024, .int 4096]) rfl rfl rfl (dy_places (x := (c (i + 1))) (by omega)) (fun v33 M34 q35 => ?_)
                      obtain ⟨rfl, rfl⟩ := q35
                      show pl _ _ _ (133, [(0, .ref q), (2, .int (nI (B + e))), (4, .int (nI w)), (5, .int (nI (B + i + 1)))], [.int (nI (pW (c (i + 1)))), .int 1024, .int 4096], M) _
                      have hp_130 := pW_le (c (i + 1))
                      refine ps_st (S' := (134, [(0, .ref q), (2, .int (nI (B + e))), (4, .int (nI w)), (5, .int (nI (B + i + 1)))], [.int (1024 * (nI (pW (c (i + 1))))), .int 4096], M)) rfl rfl rfl ?_
                      rw [nI_mul1 (p := 1024) (k := pW (c (i + 1))) (x := 1024) (y := (nI (pW (c (i + 1))))) rfl rfl (by omega)]
                      show pl _ _ _ (_, [(0, .ref q), (2, .int (nI (B + e))), (4, .int (nI w)), (5, .int (nI (B + i + 1)))], [.int (nI (1024 * (pW (c (i + 1))))), .int 4096], M) _
                      refine ps_st (S' := (135, [(0, .ref q), (2, .int (nI (B + e))), (4, .int (nI w)), (5, .int (nI (B + i + 1)))], [.int (4096 + (nI (1024 * (pW (c (i + 1))))))], M)) rfl rfl rfl ?_
                      rw [nI_add2 (p := 4096) (k := 1024 * (pW (c (i + 1)))) (x := 4096) (y := (nI (1024 * (pW (c (i + 1)))))) rfl rfl (by omega)]
                      show pl _ _ _ (_, [(0, .ref q), (2, .int (nI (B + e))), (4, .int (nI w)), (5, .int (nI (B + i + 1)))], [.int (nI (4096 + 1024 * (pW (c (i + 1)))))], M) _
                      refine ps_st (S' := (137, [(0, .ref q), (2, .int (nI (B + e))), (4, .int (nI w)), (5, .int (nI (B + i + 1)))], [.int (nI w), .int (nI (4096 + 1024 * (pW (c (i + 1)))))], M)) rfl rfl rfl ?_
                      refine ps_st (S' := (138, [(0, .ref q), (2, .int (nI (B + e))), (4, .int (nI w)), (5, .int (nI (B + i + 1)))], [.int ((nI (4096 + 1024 * (pW (c (i + 1))))) + (nI w))], M)) rfl rfl rfl ?_
                      rw [nI_add1 (p := 4096 + 1024 * (pW (c (i + 1)))) (k := w) (x := (nI w)) rfl (by omega)]
                      show pl _ _ _ (_, [(0, .ref q), (2, .int (nI (B + e))), (4, .int (nI w)), (5, .int (nI (B + i + 1)))], [.int (nI (4096 + 1024 * (pW (c (i + 1))) + w))], M) _
                      exact ps_reti rfl ((fun (he : s_ms c e i0 = 4096 + 1024 * pW (c (i + 1)) + w) => Or.inr ⟨by omega, by rw [he], rfl⟩) (by
                          unfold s_ms
                          rw [← hs]
                          rw [s_ar_0 (by omega)]
                          dsimp only
                          rw [if_neg (by omega), if_neg (by omega), if_pos (by rw [q108_s]; congr 1; omega)]))
                    · have c_112 : ¬ ((nI (B + x32)) = (nI (B + e))) := of_decide_eq_false c_112
                      have n_112 : ¬ (B + x32 = B + e) := fun h9 => c_112 ((eq_nI (p := B + x32) (n := B + e) (by omega) (by omega)).mpr h9)
                      refine ps_st (S' := (116, [(0, .ref q), (2, .int (nI (B + e))), (4, .int (nI w)), (5, .int (nI (B + i + 1)))], [.int (-1)], M)) rfl rfl rfl ?_
                      exact ps_ret rfl rfl (Or.inl ⟨by
                          unfold s_ms
                          rw [← hs]
                          rw [s_ar_0 (by omega)]
                          dsimp only
                          rw [q108_s]
                          repeat' split
                          all_goals first | rfl | (exfalso; omega) | (exfalso; simp_all; done) | (exfalso; simp_all; omega), rfl, rfl⟩)
                · have c_86 : ¬ (¬ (nI (c (i + 1))) = 86) := of_decide_eq_false c_86
                  have n_86 : c (i + 1) = 86 := (eq_nI (p := c (i + 1)) (n := 86) (by omega) (by decide)).mp (Decidable.not_not.mp c_86)
                  refine ps_st (S' := (91, [(5, .int (nI (B + i + 1))), (0, .ref q), (2, .int (nI (B + e))), (3, .int (nI (B + i))), (4, .int (nI w))], [.int (nI (B + i + 1))], M)) rfl rfl rfl ?_
                  refine ps_st (S' := (92, [(5, .int (nI (B + i + 1))), (0, .ref q), (2, .int (nI (B + e))), (3, .int (nI (B + i))), (4, .int (nI w))], [.int 1, .int (nI (B + i + 1))], M)) rfl rfl rfl ?_
                  refine ps_st (S' := (93, [(5, .int (nI (B + i + 1))), (0, .ref q), (2, .int (nI (B + e))), (3, .int (nI (B + i))), (4, .int (nI w))], [.int ((nI (B + i + 1)) + 1)], M)) rfl rfl rfl ?_
                  rw [nI_add1 (p := B + i + 1) (k := 1) (x := 1) rfl (by omega)]
                  show pl _ _ _ (_, [(5, .int (nI (B + i + 1))), (0, .ref q), (2, .int (nI (B + e))), (3, .int (nI (B + i))), (4, .int (nI w))], [.int (nI (B + i + 2))], M) _
                  refine ps_st (S' := (94, [(5, .int (nI (B + i + 1))), (0, .ref q), (2, .int (nI (B + e))), (3, .int (nI (B + i))), (4, .int (nI w))], [.int (nI (B + e)), .int (nI (B + i + 2))], M)) rfl rfl rfl ?_
                  refine ps_if2 (S1 := (104, [(0, .ref q), (2, .int (nI (B + e))), (4, .int (nI w)), (5, .int (nI (B + i + 1)))], [], M)) (S2 := (97, [(5, .int (nI (B + i + 1))), (0, .ref q), (2, .int (nI (B + e))), (3, .int (nI (B + i))), (4, .int (nI w))], [], M)) rfl rfl rfl (fun c_94 => ?_) (fun c_94 => ?_)
                  · have c_94 : ¬ (nI (B + i + 2)) = (nI (B + e)) := of_decide_eq_true c_94
                    have n_94 : ¬ (B + i + 2 = B + e) := fun h9 => c_94 ((eq_nI (p := B + i + 2) (n := B + e) (by omega) (by omega)).mpr h9)
                    refine ps_st (S' := (105, [(0, .ref q), (2, .int (nI (B + e))), (4, .int (nI w)), (5, .int (nI (B + i + 1)))], [.ref q], M)) rfl rfl rfl ?_
                    refine ps_st (S' := (107, [(0, .ref q), (2, .int (nI (B + e))), (4, .int (nI w)), (5, .int (nI (B + i + 1)))], [.int (nI (B + i + 1)), .ref q], M)) rfl rfl rfl ?_
                    refine ps_st (S' := (108, [(0, .ref q), (2, .int (nI (B + e))), (4, .int (nI w)), (5, .int (nI (B + i + 1)))], [.int (nI (B + e)), .int (nI (B + i + 1)), .ref q], M)) rfl rfl rfl ?_
                    refine pl_call (a := [.ref q, .int (nI (B + i + 1)), .int (nI (B + e))]) (rest := []) rfl rfl rfl (dy_typeEnd (q := q) (c := c) (B := B) (e := e) (i0 := (i + 1)) (hP) (hm) (hc) (by omega)) (fun v36 M37 q38 => ?_)
                    rcases q38 with q38 | q38
                    · skip
                      obtain ⟨q108_s, rfl, rfl⟩ := q38
                      show pl _ _ _ (111, [(0, .ref q), (2, .int (nI (B + e))), (4, .int (nI w)), (5, .int (nI (B + i + 1)))], [.int (-1)], M) _
                      refine ps_st (S' := (112, [(0, .ref q), (2, .int (nI (B + e))), (4, .int (nI w)), (5, .int (nI (B + i + 1)))], [.int (nI (B + e)), .int (-1)], M)) rfl rfl rfl ?_
                      refine ps_if2 (S1 := (117, [(0, .ref q), (2, .int (nI (B + e))), (4, .int (nI w)), (5, .int (nI (B + i + 1)))], [], M)) (S2 := (115, [(0, .ref q), (2, .int (nI (B + e))), (4, .int (nI w)), (5, .int (nI (B + i + 1)))], [], M)) rfl rfl rfl (fun c_112 => ?_) (fun c_112 => ?_)
                      · exact absurd (of_decide_eq_true c_112) (m1_ne (by omega))
                      refine ps_st (S' := (116, [(0, .ref q), (2, .int (nI (B + e))), (4, .int (nI w)), (5, .int (nI (B + i + 1)))], [.int (-1)], M)) rfl rfl rfl ?_
                      exact ps_ret rfl rfl (Or.inl ⟨by
                          unfold s_ms
                          rw [← hs]
                          rw [s_ar_0 (by omega)]
                          dsimp only
                          rw [q108_s]
                          repeat' split
                          all_goals first | rfl | (exfalso; omega) | (exfalso; simp_all; done) | (exfalso; simp_all; omega), rfl, rfl⟩)
                    · skip
                      obtain ⟨x39, q108_s, rfl, rfl⟩ := q38
                      show pl _ _ _ (111, [(0, .ref q), (2, .int (nI (B + e))), (4, .int (nI w)), (5, .int (nI (B + i + 1)))], [.int (nI (B + x39))], M) _
                      have hl_108 := s_ty_le q108_s
                      refine ps_st (S' := (112, [(0, .ref q), (2, .int (nI (B + e))), (4, .int (nI w)), (5, .int (nI (B + i + 1)))], [.int (nI (B + e)), .int (nI (B + x39))], M)) rfl rfl rfl ?_
                      refine ps_if2 (S1 := (117, [(0, .ref q), (2, .int (nI (B + e))), (4, .int (nI w)), (5, .int (nI (B + i + 1)))], [], M)) (S2 := (115, [(0, .ref q), (2, .int (nI (B + e))), (4, .int (nI w)), (5, .int (nI (B + i + 1)))], [], M)) rfl rfl rfl (fun c_112 => ?_) (fun c_112 => ?_)
                      · have c_112 : (nI (B + x39)) = (nI (B + e)) := of_decide_eq_true c_112
                        have n_112 : B + x39 = B + e := (eq_nI (p := B + x39) (n := B + e) (by omega) (by omega)).mp c_112
                        refine ps_st (S' := (120, [(0, .ref q), (2, .int (nI (B + e))), (4, .int (nI w)), (5, .int (nI (B + i + 1)))], [.int 4096], M)) rfl rfl rfl ?_
                        refine ps_st (S' := (123, [(0, .ref q), (2, .int (nI (B + e))), (4, .int (nI w)), (5, .int (nI (B + i + 1)))], [.int 1024, .int 4096], M)) rfl rfl rfl ?_
                        refine ps_st (S' := (124, [(0, .ref q), (2, .int (nI (B + e))), (4, .int (nI w)), (5, .int (nI (B + i + 1)))], [.ref q, .int 1024, .int 4096], M)) rfl rfl rfl ?_
                        refine ps_get (S' := (127, [(0, .ref q), (2, .int (nI (B + e))), (4, .int (nI w)), (5, .int (nI (B + i + 1)))], [.ref (qq 6), .int 1024, .int 4096], M)) rfl h_q rfl rfl ?_
                        refine ps_st (S' := (129, [(0, .ref q), (2, .int (nI (B + e))), (4, .int (nI w)), (5, .int (nI (B + i + 1)))], [.int (nI (B + i + 1)), .ref (qq 6), .int 1024, .int 4096], M)) rfl rfl rfl ?_
                        refine ps_ald (S' := (130, [(0, .ref q), (2, .int (nI (B + e))), (4, .int (nI w)), (5, .int (nI (B + i + 1)))], [.int ((F 6) (Int32.toNatClampNeg (nI (B + i + 1)))), .int 1024, .int 4096], M)) rfl h_qq_6 rfl (fun i0_129 i1_129 => ?_)
                        have hb_129 := (hc (i + 1) (by omega)).2
                        rw [show ((F 6) (Int32.toNatClampNeg (nI (B + i + 1)))) = (nI (c (i + 1))) from (congrArg (F 6) (nI_toNat (k := B + i + 1) (by omega))).trans ((hc (i + 1) (by omega)).1)]
                        show pl _ _ _ (_, [(0, .ref q), (2, .int (nI (B + e))), (4, .int (nI w)), (5, .int (nI (B + i + 1)))], [.int (nI (c (i + 1))), .int 1024, .int 4096], M) _
                        refine pl_call (a := [.int (nI (c (i + 1)))]) (rest := [.int 1024, .int 4096]) rfl rfl rfl (dy_places (x := (c (i + 1))) (by omega)) (fun v40 M41 q42 => ?_)
                        obtain ⟨rfl, rfl⟩ := q42
                        show pl _ _ _ (133, [(0, .ref q), (2, .int (nI (B + e))), (4, .int (nI w)), (5, .int (nI (B + i + 1)))], [.int (nI (pW (c (i + 1)))), .int 1024, .int 4096], M) _
                        have hp_130 := pW_le (c (i + 1))
                        refine ps_st (S' := (134, [(0, .ref q), (2, .int (nI (B + e))), (4, .int (nI w)), (5, .int (nI (B + i + 1)))], [.int (1024 * (nI (pW (c (i + 1))))), .int 4096], M)) rfl rfl rfl ?_
                        rw [nI_mul1 (p := 1024) (k := pW (c (i + 1))) (x := 1024) (y := (nI (pW (c (i + 1))))) rfl rfl (by omega)]
                        show pl _ _ _ (_, [(0, .ref q), (2, .int (nI (B + e))), (4, .int (nI w)), (5, .int (nI (B + i + 1)))], [.int (nI (1024 * (pW (c (i + 1))))), .int 4096], M) _
                        refine ps_st (S' := (135, [(0, .ref q), (2, .int (nI (B + e))), (4, .int (nI w)), (5, .int (nI (B + i + 1)))], [.int (4096 + (nI (1024 * (pW (c (i + 1))))))], M)) rfl rfl rfl ?_
                        rw [nI_add2 (p := 4096) (k := 1024 * (pW (c (i + 1)))) (x := 4096) (y := (nI (1024 * (pW (c (i + 1)))))) rfl rfl (by omega)]
                        show pl _ _ _ (_, [(0, .ref q), (2, .int (nI (B + e))), (4, .int (nI w)), (5, .int (nI (B + i + 1)))], [.int (nI (4096 + 1024 * (pW (c (i + 1)))))], M) _
                        refine ps_st (S' := (137, [(0, .ref q), (2, .int (nI (B + e))), (4, .int (nI w)), (5, .int (nI (B + i + 1)))], [.int (nI w), .int (nI (4096 + 1024 * (pW (c (i + 1)))))], M)) rfl rfl rfl ?_
                        refine ps_st (S' := (138, [(0, .ref q), (2, .int (nI (B + e))), (4, .int (nI w)), (5, .int (nI (B + i + 1)))], [.int ((nI (4096 + 1024 * (pW (c (i + 1))))) + (nI w))], M)) rfl rfl rfl ?_
                        rw [nI_add1 (p := 4096 + 1024 * (pW (c (i + 1)))) (k := w) (x := (nI w)) rfl (by omega)]
                        show pl _ _ _ (_, [(0, .ref q), (2, .int (nI (B + e))), (4, .int (nI w)), (5, .int (nI (B + i + 1)))], [.int (nI (4096 + 1024 * (pW (c (i + 1))) + w))], M) _
                        exact ps_reti rfl ((fun (he : s_ms c e i0 = 4096 + 1024 * pW (c (i + 1)) + w) => Or.inr ⟨by omega, by rw [he], rfl⟩) (by
                            unfold s_ms
                            rw [← hs]
                            rw [s_ar_0 (by omega)]
                            dsimp only
                            rw [if_neg (by omega), if_neg (by omega), if_pos (by rw [q108_s]; congr 1; omega)]))
                      · have c_112 : ¬ ((nI (B + x39)) = (nI (B + e))) := of_decide_eq_false c_112
                        have n_112 : ¬ (B + x39 = B + e) := fun h9 => c_112 ((eq_nI (p := B + x39) (n := B + e) (by omega) (by omega)).mpr h9)
                        refine ps_st (S' := (116, [(0, .ref q), (2, .int (nI (B + e))), (4, .int (nI w)), (5, .int (nI (B + i + 1)))], [.int (-1)], M)) rfl rfl rfl ?_
                        exact ps_ret rfl rfl (Or.inl ⟨by
                            unfold s_ms
                            rw [← hs]
                            rw [s_ar_0 (by omega)]
                            dsimp only
                            rw [q108_s]
                            repeat' split
                            all_goals first | rfl | (exfalso; omega) | (exfalso; simp_all; done) | (exfalso; simp_all; omega), rfl, rfl⟩)
                  · have c_94 : ¬ (¬ (nI (B + i + 2)) = (nI (B + e))) := of_decide_eq_false c_94
                    have n_94 : B + i + 2 = B + e := (eq_nI (p := B + i + 2) (n := B + e) (by omega) (by omega)).mp (Decidable.not_not.mp c_94)
                    refine ps_st (S' := (100, [(5, .int (nI (B + i + 1))), (0, .ref q), (2, .int (nI (B + e))), (3, .int (nI (B + i))), (4, .int (nI w))], [.int 4096], M)) rfl rfl rfl ?_
                    refine ps_st (S' := (102, [(5, .int (nI (B + i + 1))), (0, .ref q), (2, .int (nI (B + e))), (3, .int (nI (B + i))), (4, .int (nI w))], [.int (nI w), .int 4096], M)) rfl rfl rfl ?_
                    refine ps_st (S' := (103, [(5, .int (nI (B + i + 1))), (0, .ref q), (2, .int (nI (B + e))), (3, .int (nI (B + i))), (4, .int (nI w))], [.int (4096 + (nI w))], M)) rfl rfl rfl ?_
                    rw [nI_add2 (p := 4096) (k := w) (x := 4096) (y := (nI w)) rfl rfl (by omega)]
                    show pl _ _ _ (_, [(5, .int (nI (B + i + 1))), (0, .ref q), (2, .int (nI (B + e))), (3, .int (nI (B + i))), (4, .int (nI w))], [.int (nI (4096 + w))], M) _
                    exact ps_reti rfl ((fun (he : s_ms c e i0 = 4096 + w) => Or.inr ⟨by omega, by rw [he], rfl⟩) (by
                        unfold s_ms
                        rw [← hs]
                        rw [s_ar_0 (by omega)]
                        dsimp only
                        rw [if_neg (by omega), if_pos (by omega)]))
              · have c_72 : ¬ ((nI w) ≤ 255) := of_decide_eq_false c_72
                have n_72 : ¬ (w ≤ 255) := fun h9 => c_72 ((le_nI (p := w) (n := 255) (by omega) (by decide)).mpr h9)
                refine ps_st (S' := (76, [], [.int (-1)], M)) rfl rfl rfl ?_
                exact ps_ret rfl rfl (Or.inl ⟨by
                    unfold s_ms
                    rw [← hs]
                    rw [s_ar_0 (by omega)]
                    dsimp only
                    repeat' split
                    all_goals first | rfl | (exfalso; omega) | (exfalso; simp_all; done) | (exfalso; simp_all; omega), rfl, rfl⟩)
          · have c_26 : ¬ ((nI (c i)) = 41) := of_decide_eq_false c_26
            have n_26 : ¬ (c i = 41) := fun h9 => c_26 ((eq_nI (p := c i) (n := 41) (by omega) (by decide)).mpr h9)
            refine ps_st (S' := (31, [(0, .ref q), (2, .int (nI (B + e))), (3, .int (nI (B + i))), (4, .int (nI w))], [.int (nI w)], M)) rfl rfl rfl ?_
            refine ps_st (S' := (32, [(0, .ref q), (2, .int (nI (B + e))), (3, .int (nI (B + i))), (4, .int (nI w))], [.ref q, .int (nI w)], M)) rfl rfl rfl ?_
            refine ps_get (S' := (35, [(0, .ref q), (2, .int (nI (B + e))), (3, .int (nI (B + i))), (4, .int (nI w))], [.ref (qq 6), .int (nI w)], M)) rfl h_q rfl rfl ?_
            refine ps_st (S' := (36, [(0, .ref q), (2, .int (nI (B + e))), (3, .int (nI (B + i))), (4, .int (nI w))], [.int (nI (B + i)), .ref (qq 6), .int (nI w)], M)) rfl rfl rfl ?_
            refine ps_ald (S' := (37, [(0, .ref q), (2, .int (nI (B + e))), (3, .int (nI (B + i))), (4, .int (nI w))], [.int ((F 6) (Int32.toNatClampNeg (nI (B + i)))), .int (nI w)], M)) rfl h_qq_6 rfl (fun i0_36 i1_36 => ?_)
            have hb_36 := (hc (i) (by omega)).2
            rw [show ((F 6) (Int32.toNatClampNeg (nI (B + i)))) = (nI (c i)) from (congrArg (F 6) (nI_toNat (k := B + i) (by omega))).trans ((hc (i) (by omega)).1)]
            show pl _ _ _ (_, [(0, .ref q), (2, .int (nI (B + e))), (3, .int (nI (B + i))), (4, .int (nI w))], [.int (nI (c i)), .int (nI w)], M) _
            refine pl_call (a := [.int (nI (c i))]) (rest := [.int (nI w)]) rfl rfl rfl (dy_places (x := (c i)) (by omega)) (fun v43 M44 q45 => ?_)
            obtain ⟨rfl, rfl⟩ := q45
            show pl _ _ _ (40, [(0, .ref q), (2, .int (nI (B + e))), (3, .int (nI (B + i))), (4, .int (nI w))], [.int (nI (pW (c i))), .int (nI w)], M) _
            have hp_37 := pW_le (c i)
            refine ps_st (S' := (41, [(0, .ref q), (2, .int (nI (B + e))), (3, .int (nI (B + i))), (4, .int (nI w))], [.int ((nI w) + (nI (pW (c i))))], M)) rfl rfl rfl ?_
            rw [nI_add1 (p := w) (k := pW (c i)) (x := (nI (pW (c i)))) rfl (by omega)]
            show pl _ _ _ (_, [(0, .ref q), (2, .int (nI (B + e))), (3, .int (nI (B + i))), (4, .int (nI w))], [.int (nI (w + pW (c i)))], M) _
            refine ps_st (S' := (43, [(4, .int (nI (w + pW (c i)))), (0, .ref q), (2, .int (nI (B + e))), (3, .int (nI (B + i)))], [], M)) rfl rfl rfl ?_
            refine ps_st (S' := (44, [(4, .int (nI (w + pW (c i)))), (0, .ref q), (2, .int (nI (B + e))), (3, .int (nI (B + i)))], [.ref q], M)) rfl rfl rfl ?_
            refine ps_st (S' := (45, [(4, .int (nI (w + pW (c i)))), (0, .ref q), (2, .int (nI (B + e))), (3, .int (nI (B + i)))], [.int (nI (B + i)), .ref q], M)) rfl rfl rfl ?_
            refine ps_st (S' := (46, [(4, .int (nI (w + pW (c i)))), (0, .ref q), (2, .int (nI (B + e))), (3, .int (nI (B + i)))], [.int (nI (B + e)), .int (nI (B + i)), .ref q], M)) rfl rfl rfl ?_
            refine pl_call (a := [.ref q, .int (nI (B + i)), .int (nI (B + e))]) (rest := []) rfl rfl rfl (dy_typeEnd (q := q) (c := c) (B := B) (e := e) (i0 := i) (hP) (hm) (hc) (by omega)) (fun v46 M47 q48 => ?_)
            rcases q48 with q48 | q48
            · skip
              obtain ⟨q46_s, rfl, rfl⟩ := q48
              show pl _ _ _ (49, [(4, .int (nI (w + pW (c i)))), (0, .ref q), (2, .int (nI (B + e))), (3, .int (nI (B + i)))], [.int (-1)], M) _
              refine ps_st (S' := (50, [(3, .int (-1)), (4, .int (nI (w + pW (c i)))), (0, .ref q), (2, .int (nI (B + e)))], [], M)) rfl rfl rfl ?_
              refine ps_st (S' := (51, [(3, .int (-1)), (4, .int (nI (w + pW (c i)))), (0, .ref q), (2, .int (nI (B + e)))], [.int (-1)], M)) rfl rfl rfl ?_
              refine ps_if (S1 := (5, [(0, .ref q), (2, .int (nI (B + e))), (3, .int (-1)), (4, .int (nI (w + pW (c i))))], [], M)) (S2 := (54, [(3, .int (-1)), (4, .int (nI (w + pW (c i)))), (0, .ref q), (2, .int (nI (B + e)))], [], M)) rfl rfl rfl (fun c_51 => ?_) (fun c_51 => ?_)
              · exact absurd (of_decide_eq_true c_51) (by decide)
              refine ps_st (S' := (55, [(3, .int (-1)), (4, .int (nI (w + pW (c i)))), (0, .ref q), (2, .int (nI (B + e)))], [.int (-1)], M)) rfl rfl rfl ?_
              exact ps_ret rfl rfl (Or.inl ⟨by
                  unfold s_ms
                  rw [← hs]
                  rw [s_ar_bad (by omega) q46_s], rfl, rfl⟩)
            · skip
              obtain ⟨x49, q46_s, rfl, rfl⟩ := q48
              show pl _ _ _ (49, [(4, .int (nI (w + pW (c i)))), (0, .ref q), (2, .int (nI (B + e))), (3, .int (nI (B + i)))], [.int (nI (B + x49))], M) _
              have hl_46 := s_ty_le q46_s
              refine ps_st (S' := (50, [(3, .int (nI (B + x49))), (4, .int (nI (w + pW (c i)))), (0, .ref q), (2, .int (nI (B + e)))], [], M)) rfl rfl rfl ?_
              refine ps_st (S' := (51, [(3, .int (nI (B + x49))), (4, .int (nI (w + pW (c i)))), (0, .ref q), (2, .int (nI (B + e)))], [.int (nI (B + x49))], M)) rfl rfl rfl ?_
              refine ps_if (S1 := (5, [(0, .ref q), (2, .int (nI (B + e))), (3, .int (nI (B + x49))), (4, .int (nI (w + pW (c i))))], [], M)) (S2 := (54, [(3, .int (nI (B + x49))), (4, .int (nI (w + pW (c i)))), (0, .ref q), (2, .int (nI (B + e)))], [], M)) rfl rfl rfl (fun c_51 => ?_) (fun c_51 => ?_)
              rotate_left
              · exact absurd (Int32.not_lt.mp (nI_n0 (by omega))) (of_decide_eq_false c_51)
              exact ih (x49) (w + pW (c i))  (by have := s_ty_le q46_s; omega) (by unfold pW; split <;> omega) (by rw [← hs]; exact (s_ar_step (by omega) q46_s).symm)
  refine ps_st (S' := (1, [(0, .ref q), (1, .int (nI (B + i0))), (2, .int (nI (B + e)))], [.int (nI (B + i0))], M)) rfl rfl rfl ?_
  refine ps_st (S' := (2, [(3, .int (nI (B + i0))), (0, .ref q), (1, .int (nI (B + i0))), (2, .int (nI (B + e)))], [], M)) rfl rfl rfl ?_
  refine ps_st (S' := (3, [(3, .int (nI (B + i0))), (0, .ref q), (1, .int (nI (B + i0))), (2, .int (nI (B + e)))], [.int 0], M)) rfl rfl rfl ?_
  refine ps_st (S' := (5, [(0, .ref q), (2, .int (nI (B + e))), (3, .int (nI (B + i0))), (4, .int 0)], [], M)) rfl rfl rfl ?_
  exact (LL kf) (i0) (0)  (by omega) (by omega) (rfl)
set_option maxHeartbeats 1000000 in
theorem dy_shapeOf {g : xe_G} {M : mi_H} {q H m : Nat} {qq : Nat → Nat} {F : Nat → Nat → Int32} {sz cc : Int32} {c : Nat → Nat} {B e : Nat}  (hP : PL M q sz H m qq F cc) (hm : B + e ≤ m ∧ m ≤ 65540) (hc : ∀ i, i < e → F 6 (B + i) = nI (c i) ∧ c i < 65536) : pt (mT g) 137 [.ref q, .int (nI B), .int (nI (B + e))] M (fun v M' => (v = some (.int (shI (s_sh c e))) ∧ M = M')) := by
  refine pt_in (b := mb_137 g) rfl (fun kf => ?_)
  show pl (mT g) kf (mb_137 g).2 (0, [(0, .ref q), (1, .int (nI B)), (2, .int (nI (B + e)))], [], M) _
  have h_q := hP.1
  have h_qq_1 := hP.2.1 1 (by decide) (by decide)
  have h_qq_2 := hP.2.1 2 (by decide) (by decide)
  have h_qq_3 := hP.2.1 3 (by decide) (by decide)
  have h_qq_4 := hP.2.1 4 (by decide) (by decide)
  have h_qq_5 := hP.2.1 5 (by decide) (by decide)
  have h_qq_6 := hP.2.2
  have hc0 : ∀ (h : 0 < e), F 6 B = nI (c 0) ∧ c 0 < 65536 := fun h => hc 0 h
  refine ps_st (S' := (1, [(0, .ref q), (1, .int (nI B)), (2, .int (nI (B + e)))], [.int (nI B)], M)) rfl rfl rfl ?_
  refine ps_st (S' := (2, [(0, .ref q), (1, .int (nI B)), (2, .int (nI (B + e)))], [.int (nI (B + e)), .int (nI B)], M)) rfl rfl rfl ?_
  refine ps_if2 (S1 := (7, [(0, .ref q), (1, .int (nI B)), (2, .int (nI (B + e)))], [], M)) (S2 := (5, [(0, .ref q), (1, .int (nI B)), (2, .int (nI (B + e)))], [], M)) rfl rfl rfl (fun c_2 => ?_) (fun c_2 => ?_)
  · have c_2 : (nI B) < (nI (B + e)) := of_decide_eq_true c_2
    have n_2 : B < B + e := (lt_nI (p := B) (n := B + e) (by omega) (by omega)).mp c_2
    refine ps_st (S' := (8, [(0, .ref q), (1, .int (nI B)), (2, .int (nI (B + e)))], [.ref q], M)) rfl rfl rfl ?_
    refine ps_get (S' := (11, [(0, .ref q), (1, .int (nI B)), (2, .int (nI (B + e)))], [.ref (qq 6)], M)) rfl h_q rfl rfl ?_
    refine ps_st (S' := (12, [(0, .ref q), (1, .int (nI B)), (2, .int (nI (B + e)))], [.int (nI B), .ref (qq 6)], M)) rfl rfl rfl ?_
    refine ps_ald (S' := (13, [(0, .ref q), (1, .int (nI B)), (2, .int (nI (B + e)))], [.int ((F 6) (Int32.toNatClampNeg (nI B)))], M)) rfl h_qq_6 rfl (fun i0_12 i1_12 => ?_)
    have hb_12 := (hc (0) (by omega)).2
    rw [show ((F 6) (Int32.toNatClampNeg (nI B))) = (nI (c 0)) from (congrArg (F 6) (nI_toNat (k := B) (by omega))).trans ((hc (0) (by omega)).1)]
    show pl _ _ _ (_, [(0, .ref q), (1, .int (nI B)), (2, .int (nI (B + e)))], [.int (nI (c 0))], M) _
    refine ps_st (S' := (15, [(0, .ref q), (1, .int (nI B)), (2, .int (nI (B + e)))], [.int 40, .int (nI (c 0))], M)) rfl rfl rfl ?_
    refine ps_if2 (S1 := (27, [(0, .ref q), (1, .int (nI B)), (2, .int (nI (B + e)))], [], M)) (S2 := (18, [(0, .ref q), (1, .int (nI B)), (2, .int (nI (B + e)))], [], M)) rfl rfl rfl (fun c_15 => ?_) (fun c_15 => ?_)
    · have c_15 : ¬ (nI (c 0)) = 40 := of_decide_eq_true c_15
      have n_15 : ¬ (c 0 = 40) := fun h9 => c_15 ((eq_nI (p := c 0) (n := 40) (by omega) (by decide)).mpr h9)
      refine ps_st (S' := (28, [(0, .ref q), (1, .int (nI B)), (2, .int (nI (B + e)))], [.ref q], M)) rfl rfl rfl ?_
      refine ps_st (S' := (29, [(0, .ref q), (1, .int (nI B)), (2, .int (nI (B + e)))], [.int (nI B), .ref q], M)) rfl rfl rfl ?_
      refine ps_st (S' := (30, [(0, .ref q), (1, .int (nI B)), (2, .int (nI (B + e)))], [.int (nI (B + e)), .int (nI B), .ref q], M)) rfl rfl rfl ?_
      refine pl_call (a := [.ref q, .int (nI B), .int (nI (B + e))]) (rest := []) rfl rfl rfl (dy_typeEnd (q := q) (c := c) (B := B) (e := e) (i0 := 0) (hP) (hm) (hc) (by omega)) (fun v1 M2 q3 => ?_)
      rcases q3 with q3 | q3
      · skip
        obtain ⟨q30_s, rfl, rfl⟩ := q3
        show pl _ _ _ (33, [(0, .ref q), (1, .int (nI B)), (2, .int (nI (B + e)))], [.int (-1)], M) _
        refine ps_st (S' := (34, [(0, .ref q), (1, .int (nI B)), (2, .int (nI (B + e)))], [.int (nI (B + e)), .int (-1)], M)) rfl rfl rfl ?_
        refine ps_if2 (S1 := (49, [(0, .ref q), (1, .int (nI B)), (2, .int (nI (B + e)))], [], M)) (S2 := (37, [(0, .ref q), (1, .int (nI B)), (2, .int (nI (B + e)))], [], M)) rfl rfl rfl (fun c_34 => ?_) (fun c_34 => ?_)
        rotate_left
        · exact absurd (m1_ne (by omega)) (of_decide_eq_false c_34)
        refine ps_st (S' := (50, [], [.int (-1)], M)) rfl rfl rfl ?_
        exact ps_ret rfl rfl (⟨by rw [show s_sh c e = 0 by unfold s_sh; rw [if_neg (by omega), if_neg (by omega), if_neg (by rw [q30_s]; exact fun h => by cases h)]]; rfl, rfl⟩)
      · skip
        obtain ⟨x4, q30_s, rfl, rfl⟩ := q3
        show pl _ _ _ (33, [(0, .ref q), (1, .int (nI B)), (2, .int (nI (B + e)))], [.int (nI (B + x4))], M) _
        have hl_30 := s_ty_le q30_s
        refine ps_st (S' := (34, [(0, .ref q), (1, .int (nI B)), (2, .int (nI (B + e)))], [.int (nI (B + e)), .int (nI (B + x4))], M)) rfl rfl rfl ?_
        refine ps_if2 (S1 := (49, [(0, .ref q), (1, .int (nI B)), (2, .int (nI (B + e)))], [], M)) (S2 := (37, [(0, .ref q), (1, .int (nI B)), (2, .int (nI (B + e)))], [], M)) rfl rfl rfl (fun c_34 => ?_) (fun c_34 => ?_)
        · have c_34 : ¬ (nI (B + x4)) = (nI (B + e)) := of_decide_eq_true c_34
          have n_34 : ¬ (B + x4 = B + e) := fun h9 => c_34 ((eq_nI (p := B + x4) (n := B + e) (by omega) (by omega)).mpr h9)
          refine ps_st (S' := (50, [], [.int (-1)], M)) rfl rfl rfl ?_
          exact ps_ret rfl rfl (⟨by rw [show s_sh c e = 0 by unfold s_sh; rw [if_neg (by omega), if_neg (by omega), if_neg (by rw [q30_s]; exact fun h => by cases h; omega)]]; rfl, rfl⟩)
        · have c_34 : ¬ (¬ (nI (B + x4)) = (nI (B + e))) := of_decide_eq_false c_34
          have n_34 : B + x4 = B + e := (eq_nI (p := B + x4) (n := B + e) (by omega) (by omega)).mp (Decidable.not_not.mp c_34)
          refine ps_st (S' := (38, [(0, .ref q), (1, .int (nI B)), (2, .int (nI (B + e)))], [.ref q], M)) rfl rfl rfl ?_
          refine ps_get (S' := (41, [(0, .ref q), (1, .int (nI B)), (2, .int (nI (B + e)))], [.ref (qq 6)], M)) rfl h_q rfl rfl ?_
          refine ps_st (S' := (42, [(0, .ref q), (1, .int (nI B)), (2, .int (nI (B + e)))], [.int (nI B), .ref (qq 6)], M)) rfl rfl rfl ?_
          refine ps_ald (S' := (43, [(0, .ref q), (1, .int (nI B)), (2, .int (nI (B + e)))], [.int ((F 6) (Int32.toNatClampNeg (nI B)))], M)) rfl h_qq_6 rfl (fun i0_42 i1_42 => ?_)
          have hb_42 := (hc (0) (by omega)).2
          rw [show ((F 6) (Int32.toNatClampNeg (nI B))) = (nI (c 0)) from (congrArg (F 6) (nI_toNat (k := B) (by omega))).trans ((hc (0) (by omega)).1)]
          show pl _ _ _ (_, [(0, .ref q), (1, .int (nI B)), (2, .int (nI (B + e)))], [.int (nI (c 0))], M) _
          refine pl_call (a := [.int (nI (c 0))]) (rest := []) rfl rfl rfl (dy_places (x := (c 0)) (by omega)) (fun v5 M6 q7 => ?_)
          obtain ⟨rfl, rfl⟩ := q7
          show pl _ _ _ (46, [(0, .ref q), (1, .int (nI B)), (2, .int (nI (B + e)))], [.int (nI (pW (c 0)))], M) _
          have hp_43 := pW_le (c 0)
          refine ps_st (S' := (50, [], [.int (nI (pW (c 0)))], M)) rfl rfl rfl ?_
          exact ps_reti rfl (⟨by rw [show s_sh c e = pW (c 0) by unfold s_sh; rw [if_neg (by omega), if_neg (by omega), if_pos (by rw [q30_s]; congr 1; omega)]]; unfold shI; rw [if_neg (by unfold pW; split <;> omega)], rfl⟩)
    · have c_15 : ¬ (¬ (nI (c 0)) = 40) := of_decide_eq_false c_15
      have n_15 : c 0 = 40 := (eq_nI (p := c 0) (n := 40) (by omega) (by decide)).mp (Decidable.not_not.mp c_15)
      refine ps_st (S' := (19, [(0, .ref q), (1, .int (nI B)), (2, .int (nI (B + e)))], [.ref q], M)) rfl rfl rfl ?_
      refine ps_st (S' := (20, [(0, .ref q), (1, .int (nI B)), (2, .int (nI (B + e)))], [.int (nI B), .ref q], M)) rfl rfl rfl ?_
      refine ps_st (S' := (21, [(0, .ref q), (1, .int (nI B)), (2, .int (nI (B + e)))], [.int 1, .int (nI B), .ref q], M)) rfl rfl rfl ?_
      refine ps_st (S' := (22, [(0, .ref q), (1, .int (nI B)), (2, .int (nI (B + e)))], [.int ((nI B) + 1), .ref q], M)) rfl rfl rfl ?_
      rw [nI_add1 (p := B) (k := 1) (x := 1) rfl (by omega)]
      show pl _ _ _ (_, [(0, .ref q), (1, .int (nI B)), (2, .int (nI (B + e)))], [.int (nI (B + 1)), .ref q], M) _
      refine ps_st (S' := (23, [(0, .ref q), (1, .int (nI B)), (2, .int (nI (B + e)))], [.int (nI (B + e)), .int (nI (B + 1)), .ref q], M)) rfl rfl rfl ?_
      refine pl_call (a := [.ref q, .int (nI (B + 1)), .int (nI (B + e))]) (rest := []) rfl rfl rfl (dy_methodShape (q := q) (c := c) (B := B) (e := e) (i0 := 1) (hP) (hm) (hc) (by omega)) (fun v8 M9 q10 => ?_)
      rcases q10 with q10 | q10
      · skip
        obtain ⟨q23_s, rfl, rfl⟩ := q10
        show pl _ _ _ (26, [(0, .ref q), (1, .int (nI B)), (2, .int (nI (B + e)))], [.int (-1)], M) _
        exact ps_ret rfl rfl (⟨by rw [show s_sh c e = s_ms c e 1 by unfold s_sh; rw [if_neg (by omega), if_pos (by omega)]]; unfold shI; rw [if_pos q23_s], rfl⟩)
      · skip
        obtain ⟨q23_s, rfl, rfl⟩ := q10
        show pl _ _ _ (26, [(0, .ref q), (1, .int (nI B)), (2, .int (nI (B + e)))], [.int (nI (s_ms c e 1))], M) _
        exact ps_reti rfl (⟨by rw [show s_sh c e = s_ms c e 1 by unfold s_sh; rw [if_neg (by omega), if_pos (by omega)]]; unfold shI; rw [if_neg q23_s], rfl⟩)
  · have c_2 : ¬ ((nI B) < (nI (B + e))) := of_decide_eq_false c_2
    have n_2 : ¬ (B < B + e) := fun h9 => c_2 ((lt_nI (p := B) (n := B + e) (by omega) (by omega)).mpr h9)
    refine ps_st (S' := (6, [(0, .ref q), (1, .int (nI B)), (2, .int (nI (B + e)))], [.int (-1)], M)) rfl rfl rfl ?_
    exact ps_ret rfl rfl (⟨by rw [show s_sh c e = 0 by unfold s_sh; rw [if_pos (by omega)]]; rfl, rfl⟩)
end
section
/-! the pool's questions over its view (laid by wip/p4/d7.py) -/
theorem dy_tagOf {g : xe_G} {M : mi_H} {f : Nat → Int32} {n N q : Nat} {E : List (Nat × Nat)} {j : Nat}  (hV : PV g f n N E q M) (hj : j < 65536) : pt (mT g) 138 [.ref q, .int (nI j)] M (fun v M' => (v = some (.int (nI (tg f E j))) ∧ M = M')) := by
  obtain ⟨hL, H, m, qq, F, cc, hP, hT, hB, hb, hF, hS⟩ := hV
  exact (ct_tagOf hP (d := 3) (by decide)).pt.mono (fun v M' h => ⟨by rw [h.1, hF.tagOf hb.1 hj], h.2.symm⟩)
theorem dy_tagPlace {g : xe_G} {M : mi_H} {f : Nat → Int32} {n N q : Nat} {E : List (Nat × Nat)} {j p : Nat}  (hV : PV g f n N E q M) (hj : j < 65536) (hp : lk E j = some p) (ht : ¬ tg f E j = 0) : pt (mT g) 139 [.ref q, .int (nI j)] M (fun v M' => (v = some (.int (nI (p))) ∧ M = M')) := by
  obtain ⟨hL, H, m, qq, F, cc, hP, hT, hB, hb, hF, hS⟩ := hV
  exact (ct_tagPlace hP (d := 3) (by decide)).pt.mono (fun v M' h => ⟨by rw [h.1, hF.tagPlace hb.1 hj hp ht], h.2.symm⟩)
theorem dy_firstIndex {g : xe_G} {M : mi_H} {f : Nat → Int32} {n N q : Nat} {E : List (Nat × Nat)} {j : Nat}  (hV : PV g f n N E q M) (hj : j < 65536) : pt (mT g) 117 [.ref q, .int (nI j)] M (fun v M' => (v = some (.int (nI (fi f E j))) ∧ M = M')) := by
  obtain ⟨hL, H, m, qq, F, cc, hP, hT, hB, hb, hF, hS⟩ := hV
  exact (ct_firstIndex hP (d := 3) (by decide)).pt.mono (fun v M' h => ⟨by rw [h.1, hF.firstIndex hb.1 hj], h.2.symm⟩)
theorem dy_secondIndex {g : xe_G} {M : mi_H} {f : Nat → Int32} {n N q : Nat} {E : List (Nat × Nat)} {j : Nat}  (hV : PV g f n N E q M) (hj : j < 65536) : pt (mT g) 134 [.ref q, .int (nI j)] M (fun v M' => (v = some (.int (nI (se f E j))) ∧ M = M')) := by
  obtain ⟨hL, H, m, qq, F, cc, hP, hT, hB, hb, hF, hS⟩ := hV
  exact (ct_secondIndex hP (d := 3) (by decide)).pt.mono (fun v M' h => ⟨by rw [h.1, hF.secondIndex hb.1 hj], h.2.symm⟩)
theorem dy_textLength {g : xe_G} {M : mi_H} {f : Nat → Int32} {n N q : Nat} {E : List (Nat × Nat)} {j : Nat}  (hV : PV g f n N E q M) (hj : j < 65536) : pt (mT g) 141 [.ref q, .int (nI j)] M (fun v M' => (v = some (.int (nI ((tX f n E j).length))) ∧ M = M')) := by
  obtain ⟨hL, H, m, qq, F, cc, hP, hT, hB, hb, hF, hS⟩ := hV
  exact (ct_textLength hP (d := 3) (by decide)).pt.mono (fun v M' h => ⟨by rw [h.1, hF.textLength hb.1 hj], h.2.symm⟩)
theorem dy_characterAt {g : xe_G} {M : mi_H} {f : Nat → Int32} {n N q : Nat} {E : List (Nat × Nat)} {j i : Nat}  (hV : PV g f n N E q M) (hj : j < 65536) (hi : i < 1000000) : pt (mT g) 113 [.ref q, .int (nI j), .int (nI i)] M (fun v M' => (v = some (.int (if i < (tX f n E j).length then nI ((tX f n E j).getD i 0) else -1)) ∧ M = M')) := by
  obtain ⟨hL, H, m, qq, F, cc, hP, hT, hB, hb, hF, hS⟩ := hV
  exact (ct_characterAt hP hT (by omega) (d := 3) (by decide)).pt.mono (fun v M' h => ⟨by rw [h.1, hF.characterAt hb.1 hb.2.1 hj hi], h.2.symm⟩)
theorem dy_argumentPlaces {g : xe_G} {M : mi_H} {f : Nat → Int32} {n N q : Nat} {E : List (Nat × Nat)} {j : Nat}  (hV : PV g f n N E q M) (hj : j < 65536) : pt (mT g) 112 [.ref q, .int (nI j)] M (fun v M' => (v = some (.int (nI (argN (tX f n E j)))) ∧ M = M')) := by
  obtain ⟨hL, H, m, qq, F, cc, hP, hT, hB, hb, hF, hS⟩ := hV
  exact (ct_argumentPlaces hP (d := 3) (by decide)).pt.mono (fun v M' h => ⟨by rw [h.1, hF.argPl hS hb.1 hj], h.2.symm⟩)
theorem dy_hasNoResult {g : xe_G} {M : mi_H} {f : Nat → Int32} {n N q : Nat} {E : List (Nat × Nat)} {j : Nat}  (hV : PV g f n N E q M) (hj : j < 65536) : pt (mT g) 119 [.ref q, .int (nI j)] M (fun v M' => (v = some (.int (nI (nresN (tX f n E j)))) ∧ M = M')) := by
  obtain ⟨hL, H, m, qq, F, cc, hP, hT, hB, hb, hF, hS⟩ := hV
  exact (ct_hasNoResult hP (d := 3) (by decide)).pt.mono (fun v M' h => ⟨by rw [h.1, hF.noRes hS hb.1 hj], h.2.symm⟩)
theorem dy_isPlainClass {g : xe_G} {M : mi_H} {f : Nat → Int32} {n N q : Nat} {E : List (Nat × Nat)} {j : Nat}  (hV : PV g f n N E q M) (hj : j < 65536) : pt (mT g) 123 [.ref q, .int (nI j)] M (fun v M' => (v = some (.int (nI (plnN f n E j))) ∧ M = M')) := by
  obtain ⟨hL, H, m, qq, F, cc, hP, hT, hB, hb, hF, hS⟩ := hV
  exact (ct_isPlainClass hP hT (by omega) (d := 3) (by decide)).pt.mono (fun v M' h => ⟨by rw [h.1, hF.plain hb.1 hb.2.1 hj], h.2.symm⟩)
theorem dy_nameOf {g : xe_G} {M : mi_H} {f : Nat → Int32} {n N q : Nat} {E : List (Nat × Nat)} {j : Nat}  (hV : PV g f n N E q M) (hj : j < 65536) : pt (mT g) 128 [.ref q, .int (nI j)] M (fun v M' => (v = some (.int (nI (fi f E (se f E j)))) ∧ M = M')) := by
  obtain ⟨hL, H, m, qq, F, cc, hP, hT, hB, hb, hF, hS⟩ := hV
  exact (ct_nameOf hP (d := 3) (by decide)).pt.mono (fun v M' h => ⟨by rw [h.1, show sp_nameOf H m F (nI j) = nI (fi f E (se f E j)) by unfold sp_nameOf; rw [hF.secondIndex hb.1 hj, hF.firstIndex hb.1 (se_lt _ _ _)]], h.2.symm⟩)
theorem dy_descriptorOf {g : xe_G} {M : mi_H} {f : Nat → Int32} {n N q : Nat} {E : List (Nat × Nat)} {j : Nat}  (hV : PV g f n N E q M) (hj : j < 65536) : pt (mT g) 115 [.ref q, .int (nI j)] M (fun v M' => (v = some (.int (nI (se f E (se f E j)))) ∧ M = M')) := by
  obtain ⟨hL, H, m, qq, F, cc, hP, hT, hB, hb, hF, hS⟩ := hV
  exact (ct_descriptorOf hP (d := 3) (by decide)).pt.mono (fun v M' h => ⟨by rw [h.1, show sp_descriptorOf H m F (nI j) = nI (se f E (se f E j)) by unfold sp_descriptorOf; rw [hF.secondIndex hb.1 hj, hF.secondIndex hb.1 (se_lt _ _ _)]], h.2.symm⟩)
theorem dy_isFieldDescriptor {g : xe_G} {M : mi_H} {f : Nat → Int32} {n N q : Nat} {E : List (Nat × Nat)} {j : Nat}  (hV : PV g f n N E q M) (hj : j < 65536) : pt (mT g) 121 [.ref q, .int (nI j)] M (fun v M' => (v = some (.int (nI (fldN (tX f n E j)))) ∧ M = M')) := by
  obtain ⟨hL, H, m, qq, F, cc, hP, hT, hB, hb, hF, hS⟩ := hV
  exact (ct_isFieldDescriptor hP (d := 3) (by decide)).pt.mono (fun v M' h => ⟨by rw [h.1, hF.fld hS hb.1 hj], h.2.symm⟩)
theorem dy_isMethodDescriptor {g : xe_G} {M : mi_H} {f : Nat → Int32} {n N q : Nat} {E : List (Nat × Nat)} {j : Nat}  (hV : PV g f n N E q M) (hj : j < 65536) : pt (mT g) 122 [.ref q, .int (nI j)] M (fun v M' => (v = some (.int (nI (mthN (tX f n E j)))) ∧ M = M')) := by
  obtain ⟨hL, H, m, qq, F, cc, hP, hT, hB, hb, hF, hS⟩ := hV
  exact (ct_isMethodDescriptor hP (d := 3) (by decide)).pt.mono (fun v M' h => ⟨by rw [h.1, hF.mth hS hb.1 hj], h.2.symm⟩)
set_option maxHeartbeats 1000000 in
theorem dy_hasAngle {g : xe_G} {M : mi_H} {f : Nat → Int32} {n N q : Nat} {E : List (Nat × Nat)} {j : Nat}  (hV : PV g f n N E q M) (hj : j < 65536) : pt (mT g) 118 [.ref q, .int (nI j)] M (fun v M' => (v = some (.int (nI (angN (tX f n E j)))) ∧ M = M')) := by
  refine pt_in (b := mb_118 g) rfl (fun kf => ?_)
  show pl (mT g) kf (mb_118 g).2 (0, [(0, .ref q), (1, .int (nI j))], [], M) _
  have hV0 := hV
  obtain ⟨hL, H, m, qq, F, cc, hP, hT, hB, hb, hF, hS⟩ := hV0
  have h_q := hP.1
  have h_qq_1 := hP.2.1 1 (by decide) (by decide)
  have h_qq_2 := hP.2.1 2 (by decide) (by decide)
  have h_qq_3 := hP.2.1 3 (by decide) (by decide)
  have h_qq_4 := hP.2.1 4 (by decide) (by decide)
  have h_qq_5 := hP.2.1 5 (by decide) (by decide)
  have h_qq_6 := hP.2.2
  have LL : ∀ (kf : Nat), (∀ (i : Nat), (i ≤ (tX f n E j).length) → (∀ i9, i9 < i → ¬ (tX f n E j).getD i9 0 = 60 ∧ ¬ (tX f n E j).getD i9 0 = 62) →  pl (mT g) kf (mb_118 g).2 (2, [(0, .ref q), (1, .int (nI j)), (2, .int (nI i))], [], M) (fun v M' => (v = some (.int (nI (angN (tX f n E j)))) ∧ M = M'))) := by
    intro kf
    induction kf with
    | zero => exact (by intros; exact pl_0)
    | succ kf ih =>
      intro i hi hs
      have hl8 := tx_len f n E j
      refine ps_st1 (S' := (3, [(0, .ref q), (1, .int (nI j)), (2, .int (nI i))], [.int (nI i)], M)) rfl rfl rfl ?_
      refine ps_st (S' := (4, [(0, .ref q), (1, .int (nI j)), (2, .int (nI i))], [.ref q, .int (nI i)], M)) rfl rfl rfl ?_
      refine ps_st (S' := (5, [(0, .ref q), (1, .int (nI j)), (2, .int (nI i))], [.int (nI j), .ref q, .int (nI i)], M)) rfl rfl rfl ?_
      refine pl_call (a := [.ref q, .int (nI j)]) (rest := [.int (nI i)]) rfl rfl rfl (dy_textLength (f := f) (n := n) (N := N) (q := q) (E := E) (j := j) (hV) (by omega)) (fun v1 M2 q3 => ?_)
      obtain ⟨rfl, rfl⟩ := q3
      show pl _ _ _ (8, [(0, .ref q), (1, .int (nI j)), (2, .int (nI i))], [.int (nI ((tX f n E j).length)), .int (nI i)], M) _
      refine ps_if2 (S1 := (45, [(0, .ref q), (1, .int (nI j)), (2, .int (nI i))], [], M)) (S2 := (11, [(0, .ref q), (1, .int (nI j)), (2, .int (nI i))], [], M)) rfl rfl rfl (fun c_8 => ?_) (fun c_8 => ?_)
      · have c_8 : (nI ((tX f n E j).length)) ≤ (nI i) := of_decide_eq_true c_8
        have n_8 : (tX f n E j).length ≤ i := (le_nI (p := (tX f n E j).length) (n := i) (Nat.lt_trans (tx_len _ _ _ _) (by decide)) (by omega)).mp c_8
        refine ps_st (S' := (46, [(0, .ref q), (1, .int (nI j)), (2, .int (nI i))], [.int 0], M)) rfl rfl rfl ?_
        exact ps_ret rfl rfl (⟨by rw [show angN (tX f n E j) = 0 from ang_no (fun i9 h9 => hs i9 (by omega))]; rfl, rfl⟩)
      · have c_8 : ¬ ((nI ((tX f n E j).length)) ≤ (nI i)) := of_decide_eq_false c_8
        have n_8 : ¬ ((tX f n E j).length ≤ i) := fun h9 => c_8 ((le_nI (p := (tX f n E j).length) (n := i) (Nat.lt_trans (tx_len _ _ _ _) (by decide)) (by omega)).mpr h9)
        refine ps_st (S' := (12, [(0, .ref q), (1, .int (nI j)), (2, .int (nI i))], [.ref q], M)) rfl rfl rfl ?_
        refine ps_get (S' := (15, [(0, .ref q), (1, .int (nI j)), (2, .int (nI i))], [.ref (qq 6)], M)) rfl h_q rfl rfl ?_
        refine ps_st (S' := (16, [(0, .ref q), (1, .int (nI j)), (2, .int (nI i))], [.ref q, .ref (qq 6)], M)) rfl rfl rfl ?_
        refine ps_get (S' := (19, [(0, .ref q), (1, .int (nI j)), (2, .int (nI i))], [.ref (qq 3), .ref (qq 6)], M)) rfl h_q rfl rfl ?_
        refine ps_st (S' := (20, [(0, .ref q), (1, .int (nI j)), (2, .int (nI i))], [.int (nI j), .ref (qq 3), .ref (qq 6)], M)) rfl rfl rfl ?_
        refine ps_ald (S' := (21, [(0, .ref q), (1, .int (nI j)), (2, .int (nI i))], [.int ((F 3) (Int32.toNatClampNeg (nI j))), .ref (qq 6)], M)) rfl h_qq_3 rfl (fun i0_20 i1_20 => ?_)
        have ht1 : tg f E j = 1 := Decidable.byContradiction (fun h9 => by have h8 := congrArg List.length (tx_no (n := n) h9); simp only [List.length_nil] at h8; omega)
        obtain ⟨c0, a1, a2, a3, a4⟩ := hF.2.2.2.2 j ht1
        have hl9 := tx_len f n E j
        rw [show ((F 3) (Int32.toNatClampNeg (nI j))) = (nI c0) from (congrArg (F 3) (nI_toNat (k := j) (by omega))).trans (a1)]
        show pl _ _ _ (_, [(0, .ref q), (1, .int (nI j)), (2, .int (nI i))], [.int (nI c0), .ref (qq 6)], M) _
        refine ps_st (S' := (22, [(0, .ref q), (1, .int (nI j)), (2, .int (nI i))], [.int (nI i), .int (nI c0), .ref (qq 6)], M)) rfl rfl rfl ?_
        refine ps_st (S' := (23, [(0, .ref q), (1, .int (nI j)), (2, .int (nI i))], [.int ((nI c0) + (nI i)), .ref (qq 6)], M)) rfl rfl rfl ?_
        rw [nI_add1 (p := c0) (k := i) (x := (nI i)) rfl (by omega)]
        show pl _ _ _ (_, [(0, .ref q), (1, .int (nI j)), (2, .int (nI i))], [.int (nI (c0 + i)), .ref (qq 6)], M) _
        refine ps_ald (S' := (24, [(0, .ref q), (1, .int (nI j)), (2, .int (nI i))], [.int ((F 6) (Int32.toNatClampNeg (nI (c0 + i))))], M)) rfl h_qq_6 rfl (fun i0_23 i1_23 => ?_)
        have hb_23 := tx_ch f n E j i
        rw [show ((F 6) (Int32.toNatClampNeg (nI (c0 + i)))) = (nI ((tX f n E j).getD i 0)) from (congrArg (F 6) (nI_toNat (k := c0 + i) (by omega))).trans (a4 i (by omega))]
        show pl _ _ _ (_, [(0, .ref q), (1, .int (nI j)), (2, .int (nI i))], [.int (nI ((tX f n E j).getD i 0))], M) _
        refine ps_st (S' := (25, [(3, .int (nI ((tX f n E j).getD i 0))), (0, .ref q), (1, .int (nI j)), (2, .int (nI i))], [], M)) rfl rfl rfl ?_
        refine ps_st (S' := (26, [(3, .int (nI ((tX f n E j).getD i 0))), (0, .ref q), (1, .int (nI j)), (2, .int (nI i))], [.int (nI ((tX f n E j).getD i 0))], M)) rfl rfl rfl ?_
        refine ps_st (S' := (28, [(3, .int (nI ((tX f n E j).getD i 0))), (0, .ref q), (1, .int (nI j)), (2, .int (nI i))], [.int 60, .int (nI ((tX f n E j).getD i 0))], M)) rfl rfl rfl ?_
        refine ps_if2 (S1 := (37, [], [], M)) (S2 := (31, [(3, .int (nI ((tX f n E j).getD i 0))), (0, .ref q), (1, .int (nI j)), (2, .int (nI i))], [], M)) rfl rfl rfl (fun c_28 => ?_) (fun c_28 => ?_)
        · have c_28 : (nI ((tX f n E j).getD i 0)) = 60 := of_decide_eq_true c_28
          have n_28 : (tX f n E j).getD i 0 = 60 := (eq_nI (p := (tX f n E j).getD i 0) (n := 60) (Nat.lt_trans (tx_ch _ _ _ _ _) (by decide)) (by decide)).mp c_28
          refine ps_st (S' := (38, [], [.int 1], M)) rfl rfl rfl ?_
          exact ps_ret rfl rfl (⟨by rw [show angN (tX f n E j) = 1 from ang_in (i := i) (by omega) (by omega)]; rfl, rfl⟩)
        · have c_28 : ¬ ((nI ((tX f n E j).getD i 0)) = 60) := of_decide_eq_false c_28
          have n_28 : ¬ ((tX f n E j).getD i 0 = 60) := fun h9 => c_28 ((eq_nI (p := (tX f n E j).getD i 0) (n := 60) (Nat.lt_trans (tx_ch _ _ _ _ _) (by decide)) (by decide)).mpr h9)
          refine ps_st (S' := (32, [(3, .int (nI ((tX f n E j).getD i 0))), (0, .ref q), (1, .int (nI j)), (2, .int (nI i))], [.int (nI ((tX f n E j).getD i 0))], M)) rfl rfl rfl ?_
          refine ps_st (S' := (34, [(3, .int (nI ((tX f n E j).getD i 0))), (0, .ref q), (1, .int (nI j)), (2, .int (nI i))], [.int 62, .int (nI ((tX f n E j).getD i 0))], M)) rfl rfl rfl ?_
          refine ps_if2 (S1 := (39, [(3, .int (nI ((tX f n E j).getD i 0))), (0, .ref q), (1, .int (nI j)), (2, .int (nI i))], [], M)) (S2 := (37, [], [], M)) rfl rfl rfl (fun c_34 => ?_) (fun c_34 => ?_)
          · have c_34 : ¬ (nI ((tX f n E j).getD i 0)) = 62 := of_decide_eq_true c_34
            have n_34 : ¬ ((tX f n E j).getD i 0 = 62) := fun h9 => c_34 ((eq_nI (p := (tX f n E j).getD i 0) (n := 62) (Nat.lt_trans (tx_ch _ _ _ _ _) (by decide)) (by decide)).mpr h9)
            refine ps_st (S' := (42, [(2, .int ((nI i) + 1)), (3, .int (nI ((tX f n E j).getD i 0))), (0, .ref q), (1, .int (nI j))], [], M)) rfl rfl rfl ?_
            rw [nI_add1 (p := i) (k := 1) (x := 1) rfl (by omega)]
            show pl _ _ _ (_, [(2, .int (nI (i + 1))), (3, .int (nI ((tX f n E j).getD i 0))), (0, .ref q), (1, .int (nI j))], [], M) _
            refine ps_st (S' := (2, [(0, .ref q), (1, .int (nI j)), (2, .int (nI (i + 1)))], [], M)) rfl rfl rfl ?_
            exact ih (i + 1)  (by omega) (fun i9 h9 => by rcases Nat.lt_succ_iff_lt_or_eq.mp h9 with h8 | rfl; exact hs i9 h8; omega)
          · have c_34 : ¬ (¬ (nI ((tX f n E j).getD i 0)) = 62) := of_decide_eq_false c_34
            have n_34 : (tX f n E j).getD i 0 = 62 := (eq_nI (p := (tX f n E j).getD i 0) (n := 62) (Nat.lt_trans (tx_ch _ _ _ _ _) (by decide)) (by decide)).mp (Decidable.not_not.mp c_34)
            refine ps_st (S' := (38, [], [.int 1], M)) rfl rfl rfl ?_
            exact ps_ret rfl rfl (⟨by rw [show angN (tX f n E j) = 1 from ang_in (i := i) (by omega) (by omega)]; rfl, rfl⟩)
  refine ps_st (S' := (1, [(0, .ref q), (1, .int (nI j))], [.int 0], M)) rfl rfl rfl ?_
  refine ps_st (S' := (2, [(0, .ref q), (1, .int (nI j)), (2, .int 0)], [], M)) rfl rfl rfl ?_
  exact (LL kf) (0)  (by omega) (fun i9 h9 => by omega)
set_option maxHeartbeats 1000000 in
theorem dy_isUnqualifiedName {g : xe_G} {M : mi_H} {f : Nat → Int32} {n N q : Nat} {E : List (Nat × Nat)} {j : Nat}  (hV : PV g f n N E q M) (hj : j < 65536) : pt (mT g) 124 [.ref q, .int (nI j)] M (fun v M' => (v = some (.int (nI (unqN (tX f n E j)))) ∧ M = M')) := by
  refine pt_in (b := mb_124 g) rfl (fun kf => ?_)
  show pl (mT g) kf (mb_124 g).2 (0, [(0, .ref q), (1, .int (nI j))], [], M) _
  have hV0 := hV
  obtain ⟨hL, H, m, qq, F, cc, hP, hT, hB, hb, hF, hS⟩ := hV0
  have h_q := hP.1
  have h_qq_1 := hP.2.1 1 (by decide) (by decide)
  have h_qq_2 := hP.2.1 2 (by decide) (by decide)
  have h_qq_3 := hP.2.1 3 (by decide) (by decide)
  have h_qq_4 := hP.2.1 4 (by decide) (by decide)
  have h_qq_5 := hP.2.1 5 (by decide) (by decide)
  have h_qq_6 := hP.2.2
  have LL : ∀ (kf : Nat), (∀ (i : Nat), (i ≤ (tX f n E j).length) → (∀ i9, i9 < i → ¬ (tX f n E j).getD i9 0 = 46 ∧ ¬ (tX f n E j).getD i9 0 = 59 ∧ ¬ (tX f n E j).getD i9 0 = 91 ∧ ¬ (tX f n E j).getD i9 0 = 47) →  pl (mT g) kf (mb_124 g).2 (2, [(0, .ref q), (1, .int (nI j)), (2, .int (nI i))], [], M) (fun v M' => (v = some (.int (nI (unqN (tX f n E j)))) ∧ M = M'))) := by
    intro kf
    induction kf with
    | zero => exact (by intros; exact pl_0)
    | succ kf ih =>
      intro i hi hs
      have hl8 := tx_len f n E j
      refine ps_st1 (S' := (3, [(0, .ref q), (1, .int (nI j)), (2, .int (nI i))], [.int (nI i)], M)) rfl rfl rfl ?_
      refine ps_st (S' := (4, [(0, .ref q), (1, .int (nI j)), (2, .int (nI i))], [.ref q, .int (nI i)], M)) rfl rfl rfl ?_
      refine ps_st (S' := (5, [(0, .ref q), (1, .int (nI j)), (2, .int (nI i))], [.int (nI j), .ref q, .int (nI i)], M)) rfl rfl rfl ?_
      refine pl_call (a := [.ref q, .int (nI j)]) (rest := [.int (nI i)]) rfl rfl rfl (dy_textLength (f := f) (n := n) (N := N) (q := q) (E := E) (j := j) (hV) (by omega)) (fun v1 M2 q3 => ?_)
      obtain ⟨rfl, rfl⟩ := q3
      show pl _ _ _ (8, [(0, .ref q), (1, .int (nI j)), (2, .int (nI i))], [.int (nI ((tX f n E j).length)), .int (nI i)], M) _
      refine ps_if2 (S1 := (57, [(0, .ref q), (1, .int (nI j)), (2, .int (nI i))], [], M)) (S2 := (11, [(0, .ref q), (1, .int (nI j)), (2, .int (nI i))], [], M)) rfl rfl rfl (fun c_8 => ?_) (fun c_8 => ?_)
      · have c_8 : (nI ((tX f n E j).length)) ≤ (nI i) := of_decide_eq_true c_8
        have n_8 : (tX f n E j).length ≤ i := (le_nI (p := (tX f n E j).length) (n := i) (Nat.lt_trans (tx_len _ _ _ _) (by decide)) (by omega)).mp c_8
        refine ps_st (S' := (58, [(0, .ref q), (1, .int (nI j)), (2, .int (nI i))], [.ref q], M)) rfl rfl rfl ?_
        refine ps_st (S' := (59, [(0, .ref q), (1, .int (nI j)), (2, .int (nI i))], [.int (nI j), .ref q], M)) rfl rfl rfl ?_
        refine pl_call (a := [.ref q, .int (nI j)]) (rest := []) rfl rfl rfl (dy_textLength (f := f) (n := n) (N := N) (q := q) (E := E) (j := j) (hV) (by omega)) (fun v4 M5 q6 => ?_)
        obtain ⟨rfl, rfl⟩ := q6
        show pl _ _ _ (62, [(0, .ref q), (1, .int (nI j)), (2, .int (nI i))], [.int (nI ((tX f n E j).length))], M) _
        refine ps_if (S1 := (69, [(0, .ref q), (1, .int (nI j)), (2, .int (nI i))], [], M)) (S2 := (65, [(0, .ref q), (1, .int (nI j)), (2, .int (nI i))], [], M)) rfl rfl rfl (fun c_62 => ?_) (fun c_62 => ?_)
        · have c_62 : (nI ((tX f n E j).length)) ≤ 0 := of_decide_eq_true c_62
          have n_62 : (tX f n E j).length ≤ 0 := (le_nI (p := (tX f n E j).length) (n := 0) (Nat.lt_trans (tx_len _ _ _ _) (by decide)) (by decide)).mp c_62
          refine ps_st (S' := (70, [], [.int 0], M)) rfl rfl rfl ?_
          exact ps_ret rfl rfl (⟨by rw [show unqN (tX f n E j) = 0 from unq_nil (by omega)]; rfl, rfl⟩)
        · have c_62 : ¬ ((nI ((tX f n E j).length)) ≤ 0) := of_decide_eq_false c_62
          have n_62 : ¬ ((tX f n E j).length ≤ 0) := fun h9 => c_62 ((le_nI (p := (tX f n E j).length) (n := 0) (Nat.lt_trans (tx_len _ _ _ _) (by decide)) (by decide)).mpr h9)
          refine ps_st (S' := (66, [(0, .ref q), (1, .int (nI j)), (2, .int (nI i))], [.int 1], M)) rfl rfl rfl ?_
          refine ps_st (S' := (70, [], [.int 1], M)) rfl rfl rfl ?_
          exact ps_ret rfl rfl (⟨by rw [show unqN (tX f n E j) = 1 from unq_in (by omega) (fun i9 h9 => hs i9 (by omega))]; rfl, rfl⟩)
      · have c_8 : ¬ ((nI ((tX f n E j).length)) ≤ (nI i)) := of_decide_eq_false c_8
        have n_8 : ¬ ((tX f n E j).length ≤ i) := fun h9 => c_8 ((le_nI (p := (tX f n E j).length) (n := i) (Nat.lt_trans (tx_len _ _ _ _) (by decide)) (by omega)).mpr h9)
        refine ps_st (S' := (12, [(0, .ref q), (1, .int (nI j)), (2, .int (nI i))], [.ref q], M)) rfl rfl rfl ?_
        refine ps_get (S' := (15, [(0, .ref q), (1, .int (nI j)), (2, .int (nI i))], [.ref (qq 6)], M)) rfl h_q rfl rfl ?_
        refine ps_st (S' := (16, [(0, .ref q), (1, .int (nI j)), (2, .int (nI i))], [.ref q, .ref (qq 6)], M)) rfl rfl rfl ?_
        refine ps_get (S' := (19, [(0, .ref q), (1, .int (nI j)), (2, .int (nI i))], [.ref (qq 3), .ref (qq 6)], M)) rfl h_q rfl rfl ?_
        refine ps_st (S' := (20, [(0, .ref q), (1, .int (nI j)), (2, .int (nI i))], [.int (nI j), .ref (qq 3), .ref (qq 6)], M)) rfl rfl rfl ?_
        refine ps_ald (S' := (21, [(0, .ref q), (1, .int (nI j)), (2, .int (nI i))], [.int ((F 3) (Int32.toNatClampNeg (nI j))), .ref (qq 6)], M)) rfl h_qq_3 rfl (fun i0_20 i1_20 => ?_)
        have ht1 : tg f E j = 1 := Decidable.byContradiction (fun h9 => by have h8 := congrArg List.length (tx_no (n := n) h9); simp only [List.length_nil] at h8; omega)
        obtain ⟨c0, a1, a2, a3, a4⟩ := hF.2.2.2.2 j ht1
        have hl9 := tx_len f n E j
        rw [show ((F 3) (Int32.toNatClampNeg (nI j))) = (nI c0) from (congrArg (F 3) (nI_toNat (k := j) (by omega))).trans (a1)]
        show pl _ _ _ (_, [(0, .ref q), (1, .int (nI j)), (2, .int (nI i))], [.int (nI c0), .ref (qq 6)], M) _
        refine ps_st (S' := (22, [(0, .ref q), (1, .int (nI j)), (2, .int (nI i))], [.int (nI i), .int (nI c0), .ref (qq 6)], M)) rfl rfl rfl ?_
        refine ps_st (S' := (23, [(0, .ref q), (1, .int (nI j)), (2, .int (nI i))], [.int ((nI c0) + (nI i)), .ref (qq 6)], M)) rfl rfl rfl ?_
        rw [nI_add1 (p := c0) (k := i) (x := (nI i)) rfl (by omega)]
        show pl _ _ _ (_, [(0, .ref q), (1, .int (nI j)), (2, .int (nI i))], [.int (nI (c0 + i)), .ref (qq 6)], M) _
        refine ps_ald (S' := (24, [(0, .ref q), (1, .int (nI j)), (2, .int (nI i))], [.int ((F 6) (Int32.toNatClampNeg (nI (c0 + i))))], M)) rfl h_qq_6 rfl (fun i0_23 i1_23 => ?_)
        have hb_23 := tx_ch f n E j i
        rw [show ((F 6) (Int32.toNatClampNeg (nI (c0 + i)))) = (nI ((tX f n E j).getD i 0)) from (congrArg (F 6) (nI_toNat (k := c0 + i) (by omega))).trans (a4 i (by omega))]
        show pl _ _ _ (_, [(0, .ref q), (1, .int (nI j)), (2, .int (nI i))], [.int (nI ((tX f n E j).getD i 0))], M) _
        refine ps_st (S' := (25, [(3, .int (nI ((tX f n E j).getD i 0))), (0, .ref q), (1, .int (nI j)), (2, .int (nI i))], [], M)) rfl rfl rfl ?_
        refine ps_st (S' := (26, [(3, .int (nI ((tX f n E j).getD i 0))), (0, .ref q), (1, .int (nI j)), (2, .int (nI i))], [.int (nI ((tX f n E j).getD i 0))], M)) rfl rfl rfl ?_
        refine ps_st (S' := (28, [(3, .int (nI ((tX f n E j).getD i 0))), (0, .ref q), (1, .int (nI j)), (2, .int (nI i))], [.int 46, .int (nI ((tX f n E j).getD i 0))], M)) rfl rfl rfl ?_
        refine ps_if2 (S1 := (49, [], [], M)) (S2 := (31, [(3, .int (nI ((tX f n E j).getD i 0))), (0, .ref q), (1, .int (nI j)), (2, .int (nI i))], [], M)) rfl rfl rfl (fun c_28 => ?_) (fun c_28 => ?_)
        · have c_28 : (nI ((tX f n E j).getD i 0)) = 46 := of_decide_eq_true c_28
          have n_28 : (tX f n E j).getD i 0 = 46 := (eq_nI (p := (tX f n E j).getD i 0) (n := 46) (Nat.lt_trans (tx_ch _ _ _ _ _) (by decide)) (by decide)).mp c_28
          refine ps_st (S' := (50, [], [.int 0], M)) rfl rfl rfl ?_
          exact ps_ret rfl rfl (⟨by rw [show unqN (tX f n E j) = 0 from unq_no (i := i) (by omega) (by omega)]; rfl, rfl⟩)
        · have c_28 : ¬ ((nI ((tX f n E j).getD i 0)) = 46) := of_decide_eq_false c_28
          have n_28 : ¬ ((tX f n E j).getD i 0 = 46) := fun h9 => c_28 ((eq_nI (p := (tX f n E j).getD i 0) (n := 46) (Nat.lt_trans (tx_ch _ _ _ _ _) (by decide)) (by decide)).mpr h9)
          refine ps_st (S' := (32, [(3, .int (nI ((tX f n E j).getD i 0))), (0, .ref q), (1, .int (nI j)), (2, .int (nI i))], [.int (nI ((tX f n E j).getD i 0))], M)) rfl rfl rfl ?_
          refine ps_st (S' := (34, [(3, .int (nI ((tX f n E j).getD i 0))), (0, .ref q), (1, .int (nI j)), (2, .int (nI i))], [.int 59, .int (nI ((tX f n E j).getD i 0))], M)) rfl rfl rfl ?_
          refine ps_if2 (S1 := (49, [], [], M)) (S2 := (37, [(3, .int (nI ((tX f n E j).getD i 0))), (0, .ref q), (1, .int (nI j)), (2, .int (nI i))], [], M)) rfl rfl rfl (fun c_34 => ?_) (fun c_34 => ?_)
          · have c_34 : (nI ((tX f n E j).getD i 0)) = 59 := of_decide_eq_true c_34
            have n_34 : (tX f n E j).getD i 0 = 59 := (eq_nI (p := (tX f n E j).getD i 0) (n := 59) (Nat.lt_trans (tx_ch _ _ _ _ _) (by decide)) (by decide)).mp c_34
            refine ps_st (S' := (50, [], [.int 0], M)) rfl rfl rfl ?_
            exact ps_ret rfl rfl (⟨by rw [show unqN (tX f n E j) = 0 from unq_no (i := i) (by omega) (by omega)]; rfl, rfl⟩)
          · have c_34 : ¬ ((nI ((tX f n E j).getD i 0)) = 59) := of_decide_eq_false c_34
            have n_34 : ¬ ((tX f n E j).getD i 0 = 59) := fun h9 => c_34 ((eq_nI (p := (tX f n E j).getD i 0) (n := 59) (Nat.lt_trans (tx_ch _ _ _ _ _) (by decide)) (by decide)).mpr h9)
            refine ps_st (S' := (38, [(3, .int (nI ((tX f n E j).getD i 0))), (0, .ref q), (1, .int (nI j)), (2, .int (nI i))], [.int (nI ((tX f n E j).getD i 0))], M)) rfl rfl rfl ?_
            refine ps_st (S' := (40, [(3, .int (nI ((tX f n E j).getD i 0))), (0, .ref q), (1, .int (nI j)), (2, .int (nI i))], [.int 91, .int (nI ((tX f n E j).getD i 0))], M)) rfl rfl rfl ?_
            refine ps_if2 (S1 := (49, [], [], M)) (S2 := (43, [(3, .int (nI ((tX f n E j).getD i 0))), (0, .ref q), (1, .int (nI j)), (2, .int (nI i))], [], M)) rfl rfl rfl (fun c_40 => ?_) (fun c_40 => ?_)
            · have c_40 : (nI ((tX f n E j).getD i 0)) = 91 := of_decide_eq_true c_40
              have n_40 : (tX f n E j).getD i 0 = 91 := (eq_nI (p := (tX f n E j).getD i 0) (n := 91) (Nat.lt_trans (tx_ch _ _ _ _ _) (by decide)) (by decide)).mp c_40
              refine ps_st (S' := (50, [], [.int 0], M)) rfl rfl rfl ?_
              exact ps_ret rfl rfl (⟨by rw [show unqN (tX f n E j) = 0 from unq_no (i := i) (by omega) (by omega)]; rfl, rfl⟩)
            · have c_40 : ¬ ((nI ((tX f n E j).getD i 0)) = 91) := of_decide_eq_false c_40
              have n_40 : ¬ ((tX f n E j).getD i 0 = 91) := fun h9 => c_40 ((eq_nI (p := (tX f n E j).getD i 0) (n := 91) (Nat.lt_trans (tx_ch _ _ _ _ _) (by decide)) (by decide)).mpr h9)
              refine ps_st (S' := (44, [(3, .int (nI ((tX f n E j).getD i 0))), (0, .ref q), (1, .int (nI j)), (2, .int (nI i))], [.int (nI ((tX f n E j).getD i 0))], M)) rfl rfl rfl ?_
              refine ps_st (S' := (46, [(3, .int (nI ((tX f n E j).getD i 0))), (0, .ref q), (1, .int (nI j)), (2, .int (nI i))], [.int 47, .int (nI ((tX f n E j).getD i 0))], M)) rfl rfl rfl ?_
              refine ps_if2 (S1 := (51, [(3, .int (nI ((tX f n E j).getD i 0))), (0, .ref q), (1, .int (nI j)), (2, .int (nI i))], [], M)) (S2 := (49, [], [], M)) rfl rfl rfl (fun c_46 => ?_) (fun c_46 => ?_)
              · have c_46 : ¬ (nI ((tX f n E j).getD i 0)) = 47 := of_decide_eq_true c_46
                have n_46 : ¬ ((tX f n E j).getD i 0 = 47) := fun h9 => c_46 ((eq_nI (p := (tX f n E j).getD i 0) (n := 47) (Nat.lt_trans (tx_ch _ _ _ _ _) (by decide)) (by decide)).mpr h9)
                refine ps_st (S' := (54, [(2, .int ((nI i) + 1)), (3, .int (nI ((tX f n E j).getD i 0))), (0, .ref q), (1, .int (nI j))], [], M)) rfl rfl rfl ?_
                rw [nI_add1 (p := i) (k := 1) (x := 1) rfl (by omega)]
                show pl _ _ _ (_, [(2, .int (nI (i + 1))), (3, .int (nI ((tX f n E j).getD i 0))), (0, .ref q), (1, .int (nI j))], [], M) _
                refine ps_st (S' := (2, [(0, .ref q), (1, .int (nI j)), (2, .int (nI (i + 1)))], [], M)) rfl rfl rfl ?_
                exact ih (i + 1)  (by omega) (fun i9 h9 => by rcases Nat.lt_succ_iff_lt_or_eq.mp h9 with h8 | rfl; exact hs i9 h8; omega)
              · have c_46 : ¬ (¬ (nI ((tX f n E j).getD i 0)) = 47) := of_decide_eq_false c_46
                have n_46 : (tX f n E j).getD i 0 = 47 := (eq_nI (p := (tX f n E j).getD i 0) (n := 47) (Nat.lt_trans (tx_ch _ _ _ _ _) (by decide)) (by decide)).mp (Decidable.not_not.mp c_46)
                refine ps_st (S' := (50, [], [.int 0], M)) rfl rfl rfl ?_
                exact ps_ret rfl rfl (⟨by rw [show unqN (tX f n E j) = 0 from unq_no (i := i) (by omega) (by omega)]; rfl, rfl⟩)
  refine ps_st (S' := (1, [(0, .ref q), (1, .int (nI j))], [.int 0], M)) rfl rfl rfl ?_
  refine ps_st (S' := (2, [(0, .ref q), (1, .int (nI j)), (2, .int 0)], [], M)) rfl rfl rfl ?_
  exact (LL kf) (0)  (by omega) (fun i9 h9 => by omega)
set_option maxHeartbeats 1000000 in
theorem dy_textIs {g : xe_G} {M : mi_H} {f : Nat → Int32} {n N q : Nat} {E : List (Nat × Nat)} {j k : Nat}  (hV : PV g f n N E q M) (hj : j < 65536) (hk : k < 15) : pt (mT g) 140 [.ref q, .int (nI j), .ref (g.2.1 k)] M (fun v M' => (v = some (.int (nI (eqN (tX f n E j) (ltx k)))) ∧ M = M')) := by
  refine pt_in (b := mb_140 g) rfl (fun kf => ?_)
  show pl (mT g) kf (mb_140 g).2 (0, [(0, .ref q), (1, .int (nI j)), (2, .ref (g.2.1 k))], [], M) _
  have hV0 := hV
  obtain ⟨hL, H, m, qq, F, cc, hP, hT, hB, hb, hF, hS⟩ := hV0
  have h_q := hP.1
  have h_qq_1 := hP.2.1 1 (by decide) (by decide)
  have h_qq_2 := hP.2.1 2 (by decide) (by decide)
  have h_qq_3 := hP.2.1 3 (by decide) (by decide)
  have h_qq_4 := hP.2.1 4 (by decide) (by decide)
  have h_qq_5 := hP.2.1 5 (by decide) (by decide)
  have h_qq_6 := hP.2.2
  obtain ⟨hl0, k9, fl9, hk9, hlt, htx⟩ := hL k hk
  have hll : (xe_lt k9).2.2.2.length = (ltx k).length := by rw [htx]; unfold ltx; simp
  have hl7 := (ltx_ch k (by omega) 0 (by decide)).2
  have LL : ∀ (kf : Nat), (∀ (i : Nat), (tg f E j = 1) → ((tX f n E j).length = (ltx k).length) → (i ≤ (ltx k).length) → (∀ i9, i9 < i → (tX f n E j).getD i9 0 = (ltx k).getD i9 0) →  pl (mT g) kf (mb_140 g).2 (26, [(0, .ref q), (1, .int (nI j)), (2, .ref (g.2.1 k)), (3, .int (nI i))], [], M) (fun v M' => (v = some (.int (nI (eqN (tX f n E j) (ltx k)))) ∧ M = M'))) := by
    intro kf
    induction kf with
    | zero => exact (by intros; exact pl_0)
    | succ kf ih =>
      intro i ht1 he hi hs
      obtain ⟨c0, a1, a2, a3, a4⟩ := hF.2.2.2.2 j ht1
      refine ps_st1 (S' := (27, [(0, .ref q), (1, .int (nI j)), (2, .ref (g.2.1 k)), (3, .int (nI i))], [.int (nI i)], M)) rfl rfl rfl ?_
      refine ps_st (S' := (28, [(0, .ref q), (1, .int (nI j)), (2, .ref (g.2.1 k)), (3, .int (nI i))], [.ref (g.2.1 k), .int (nI i)], M)) rfl rfl rfl ?_
      refine ps_slen (S' := (31, [(0, .ref q), (1, .int (nI j)), (2, .ref (g.2.1 k)), (3, .int (nI i))], [.int (nI (ltx k).length), .int (nI i)], M)) rfl hlt (hll) rfl ?_
      refine ps_if2 (S1 := (63, [(0, .ref q), (1, .int (nI j)), (2, .ref (g.2.1 k)), (3, .int (nI i))], [], M)) (S2 := (34, [(0, .ref q), (1, .int (nI j)), (2, .ref (g.2.1 k)), (3, .int (nI i))], [], M)) rfl rfl rfl (fun c_31 => ?_) (fun c_31 => ?_)
      · have c_31 : (nI (ltx k).length) ≤ (nI i) := of_decide_eq_true c_31
        have n_31 : (ltx k).length ≤ i := (le_nI (p := (ltx k).length) (n := i) (by omega) (by omega)).mp c_31
        refine ps_st (S' := (64, [(0, .ref q), (1, .int (nI j)), (2, .ref (g.2.1 k)), (3, .int (nI i))], [.int 1], M)) rfl rfl rfl ?_
        exact ps_ret rfl rfl (⟨by rw [show eqN (tX f n E j) (ltx k) = 1 from if_pos (gd_ext (by omega) (fun i9 h9 => hs i9 (by omega)))]; rfl, rfl⟩)
      · have c_31 : ¬ ((nI (ltx k).length) ≤ (nI i)) := of_decide_eq_false c_31
        have n_31 : ¬ ((ltx k).length ≤ i) := fun h9 => c_31 ((le_nI (p := (ltx k).length) (n := i) (by omega) (by omega)).mpr h9)
        refine ps_st (S' := (35, [(0, .ref q), (1, .int (nI j)), (2, .ref (g.2.1 k)), (3, .int (nI i))], [.ref q], M)) rfl rfl rfl ?_
        refine ps_get (S' := (38, [(0, .ref q), (1, .int (nI j)), (2, .ref (g.2.1 k)), (3, .int (nI i))], [.ref (qq 6)], M)) rfl h_q rfl rfl ?_
        refine ps_st (S' := (39, [(0, .ref q), (1, .int (nI j)), (2, .ref (g.2.1 k)), (3, .int (nI i))], [.ref q, .ref (qq 6)], M)) rfl rfl rfl ?_
        refine ps_get (S' := (42, [(0, .ref q), (1, .int (nI j)), (2, .ref (g.2.1 k)), (3, .int (nI i))], [.ref (qq 3), .ref (qq 6)], M)) rfl h_q rfl rfl ?_
        refine ps_st (S' := (43, [(0, .ref q), (1, .int (nI j)), (2, .ref (g.2.1 k)), (3, .int (nI i))], [.int (nI j), .ref (qq 3), .ref (qq 6)], M)) rfl rfl rfl ?_
        refine ps_ald (S' := (44, [(0, .ref q), (1, .int (nI j)), (2, .ref (g.2.1 k)), (3, .int (nI i))], [.int ((F 3) (Int32.toNatClampNeg (nI j))), .ref (qq 6)], M)) rfl h_qq_3 rfl (fun i0_43 i1_43 => ?_)
        have hl9 := tx_len f n E j
        rw [show ((F 3) (Int32.toNatClampNeg (nI j))) = (nI c0) from (congrArg (F 3) (nI_toNat (k := j) (by omega))).trans (a1)]
        show pl _ _ _ (_, [(0, .ref q), (1, .int (nI j)), (2, .ref (g.2.1 k)), (3, .int (nI i))], [.int (nI c0), .ref (qq 6)], M) _
        refine ps_st (S' := (45, [(0, .ref q), (1, .int (nI j)), (2, .ref (g.2.1 k)), (3, .int (nI i))], [.int (nI i), .int (nI c0), .ref (qq 6)], M)) rfl rfl rfl ?_
        refine ps_st (S' := (46, [(0, .ref q), (1, .int (nI j)), (2, .ref (g.2.1 k)), (3, .int (nI i))], [.int ((nI c0) + (nI i)), .ref (qq 6)], M)) rfl rfl rfl ?_
        rw [nI_add1 (p := c0) (k := i) (x := (nI i)) rfl (by omega)]
        show pl _ _ _ (_, [(0, .ref q), (1, .int (nI j)), (2, .ref (g.2.1 k)), (3, .int (nI i))], [.int (nI (c0 + i)), .ref (qq 6)], M) _
        refine ps_ald (S' := (47, [(0, .ref q), (1, .int (nI j)), (2, .ref (g.2.1 k)), (3, .int (nI i))], [.int ((F 6) (Int32.toNatClampNeg (nI (c0 + i))))], M)) rfl h_qq_6 rfl (fun i0_46 i1_46 => ?_)
        have hb_46 := tx_ch f n E j i
        have hb9_46 := (ltx_ch k (by omega) i (by omega)).1
        rw [show ((F 6) (Int32.toNatClampNeg (nI (c0 + i)))) = (nI ((tX f n E j).getD i 0)) from (congrArg (F 6) (nI_toNat (k := c0 + i) (by omega))).trans (a4 i (by omega))]
        show pl _ _ _ (_, [(0, .ref q), (1, .int (nI j)), (2, .ref (g.2.1 k)), (3, .int (nI i))], [.int (nI ((tX f n E j).getD i 0))], M) _
        refine ps_st (S' := (48, [(0, .ref q), (1, .int (nI j)), (2, .ref (g.2.1 k)), (3, .int (nI i))], [.ref (g.2.1 k), .int (nI ((tX f n E j).getD i 0))], M)) rfl rfl rfl ?_
        refine ps_st (S' := (49, [(0, .ref q), (1, .int (nI j)), (2, .ref (g.2.1 k)), (3, .int (nI i))], [.int (nI i), .ref (g.2.1 k), .int (nI ((tX f n E j).getD i 0))], M)) rfl rfl rfl ?_
        refine ps_schar (S' := (52, [(0, .ref q), (1, .int (nI j)), (2, .ref (g.2.1 k)), (3, .int (nI i))], [.int (nI ((ltx k).getD i 0)), .int (nI ((tX f n E j).getD i 0))], M)) rfl hlt ⟨(by omega : k < 30), htx⟩ (by omega) rfl ?_
        refine ps_if2 (S1 := (57, [(0, .ref q), (1, .int (nI j)), (2, .ref (g.2.1 k)), (3, .int (nI i))], [], M)) (S2 := (55, [(0, .ref q), (1, .int (nI j)), (2, .ref (g.2.1 k)), (3, .int (nI i))], [], M)) rfl rfl rfl (fun c_52 => ?_) (fun c_52 => ?_)
        · have c_52 : (nI ((tX f n E j).getD i 0)) = (nI ((ltx k).getD i 0)) := of_decide_eq_true c_52
          have n_52 : (tX f n E j).getD i 0 = (ltx k).getD i 0 := (eq_nI (p := (tX f n E j).getD i 0) (n := (ltx k).getD i 0) (Nat.lt_trans (tx_ch _ _ _ _ _) (by decide)) (by omega)).mp c_52
          refine ps_st (S' := (60, [(3, .int ((nI i) + 1)), (0, .ref q), (1, .int (nI j)), (2, .ref (g.2.1 k))], [], M)) rfl rfl rfl ?_
          rw [nI_add1 (p := i) (k := 1) (x := 1) rfl (by omega)]
          show pl _ _ _ (_, [(3, .int (nI (i + 1))), (0, .ref q), (1, .int (nI j)), (2, .ref (g.2.1 k))], [], M) _
          refine ps_st (S' := (26, [(0, .ref q), (1, .int (nI j)), (2, .ref (g.2.1 k)), (3, .int (nI (i + 1)))], [], M)) rfl rfl rfl ?_
          exact ih (i + 1)  (ht1) (he) (by omega) (fun i9 h9 => by rcases Nat.lt_succ_iff_lt_or_eq.mp h9 with h8 | rfl; exact hs i9 h8; omega)
        · have c_52 : ¬ ((nI ((tX f n E j).getD i 0)) = (nI ((ltx k).getD i 0))) := of_decide_eq_false c_52
          have n_52 : ¬ ((tX f n E j).getD i 0 = (ltx k).getD i 0) := fun h9 => c_52 ((eq_nI (p := (tX f n E j).getD i 0) (n := (ltx k).getD i 0) (Nat.lt_trans (tx_ch _ _ _ _ _) (by decide)) (by omega)).mpr h9)
          refine ps_st (S' := (56, [(0, .ref q), (1, .int (nI j)), (2, .ref (g.2.1 k)), (3, .int (nI i))], [.int 0], M)) rfl rfl rfl ?_
          exact ps_ret rfl rfl (⟨by rw [show eqN (tX f n E j) (ltx k) = 0 from if_neg (fun h9 => by rw [h9] at n_52; exact n_52 rfl)]; rfl, rfl⟩)
  refine ps_st (S' := (1, [(0, .ref q), (1, .int (nI j)), (2, .ref (g.2.1 k))], [.ref q], M)) rfl rfl rfl ?_
  refine ps_st (S' := (2, [(0, .ref q), (1, .int (nI j)), (2, .ref (g.2.1 k))], [.int (nI j), .ref q], M)) rfl rfl rfl ?_
  refine pl_call (a := [.ref q, .int (nI j)]) (rest := []) rfl rfl rfl (dy_tagOf (f := f) (n := n) (N := N) (q := q) (E := E) (j := j) (hV) (by omega)) (fun v1 M2 q3 => ?_)
  obtain ⟨rfl, rfl⟩ := q3
  show pl _ _ _ (5, [(0, .ref q), (1, .int (nI j)), (2, .ref (g.2.1 k))], [.int (nI (tg f E j))], M) _
  refine ps_st (S' := (6, [(0, .ref q), (1, .int (nI j)), (2, .ref (g.2.1 k))], [.int 1, .int (nI (tg f E j))], M)) rfl rfl rfl ?_
  refine ps_if2 (S1 := (22, [], [], M)) (S2 := (9, [(0, .ref q), (1, .int (nI j)), (2, .ref (g.2.1 k))], [], M)) rfl rfl rfl (fun c_6 => ?_) (fun c_6 => ?_)
  · have c_6 : ¬ (nI (tg f E j)) = 1 := of_decide_eq_true c_6
    have n_6 : ¬ (tg f E j = 1) := fun h9 => c_6 ((eq_nI (p := tg f E j) (n := 1) (Nat.lt_trans (tg_lt _ _ _) (by decide)) (by decide)).mpr h9)
    refine ps_st (S' := (23, [], [.int 0], M)) rfl rfl rfl ?_
    exact ps_ret rfl rfl (⟨by rw [show eqN (tX f n E j) (ltx k) = 0 from if_neg (fun h9 => by have h8 := tx_no (n := n) n_6; rw [h8] at h9; exact ltx_ne k (by omega) h9.symm)]; rfl, rfl⟩)
  · have c_6 : ¬ (¬ (nI (tg f E j)) = 1) := of_decide_eq_false c_6
    have n_6 : tg f E j = 1 := (eq_nI (p := tg f E j) (n := 1) (Nat.lt_trans (tg_lt _ _ _) (by decide)) (by decide)).mp (Decidable.not_not.mp c_6)
    refine ps_st (S' := (10, [(0, .ref q), (1, .int (nI j)), (2, .ref (g.2.1 k))], [.ref q], M)) rfl rfl rfl ?_
    refine ps_get (S' := (13, [(0, .ref q), (1, .int (nI j)), (2, .ref (g.2.1 k))], [.ref (qq 4)], M)) rfl h_q rfl rfl ?_
    refine ps_st (S' := (14, [(0, .ref q), (1, .int (nI j)), (2, .ref (g.2.1 k))], [.int (nI j), .ref (qq 4)], M)) rfl rfl rfl ?_
    refine ps_ald (S' := (15, [(0, .ref q), (1, .int (nI j)), (2, .ref (g.2.1 k))], [.int ((F 4) (Int32.toNatClampNeg (nI j)))], M)) rfl h_qq_4 rfl (fun i0_14 i1_14 => ?_)
    have ht1 : tg f E j = 1 := by omega
    have hl9 := tx_len f n E j
    rw [show ((F 4) (Int32.toNatClampNeg (nI j))) = (nI (tX f n E j).length) from (congrArg (F 4) (nI_toNat (k := j) (by omega))).trans (hF.2.2.2.2 j ht1 |>.choose_spec.2.1)]
    show pl _ _ _ (_, [(0, .ref q), (1, .int (nI j)), (2, .ref (g.2.1 k))], [.int (nI (tX f n E j).length)], M) _
    refine ps_st (S' := (16, [(0, .ref q), (1, .int (nI j)), (2, .ref (g.2.1 k))], [.ref (g.2.1 k), .int (nI (tX f n E j).length)], M)) rfl rfl rfl ?_
    refine ps_slen (S' := (19, [(0, .ref q), (1, .int (nI j)), (2, .ref (g.2.1 k))], [.int (nI (ltx k).length), .int (nI (tX f n E j).length)], M)) rfl hlt (hll) rfl ?_
    refine ps_if2 (S1 := (24, [(0, .ref q), (1, .int (nI j)), (2, .ref (g.2.1 k))], [], M)) (S2 := (22, [], [], M)) rfl rfl rfl (fun c_19 => ?_) (fun c_19 => ?_)
    · have c_19 : (nI (tX f n E j).length) = (nI (ltx k).length) := of_decide_eq_true c_19
      have n_19 : (tX f n E j).length = (ltx k).length := (eq_nI (p := (tX f n E j).length) (n := (ltx k).length) (Nat.lt_trans (tx_len _ _ _ _) (by decide)) (by omega)).mp c_19
      refine ps_st (S' := (25, [(0, .ref q), (1, .int (nI j)), (2, .ref (g.2.1 k))], [.int 0], M)) rfl rfl rfl ?_
      refine ps_st (S' := (26, [(0, .ref q), (1, .int (nI j)), (2, .ref (g.2.1 k)), (3, .int 0)], [], M)) rfl rfl rfl ?_
      exact (LL kf) (0)  (ht1) (by omega) (by omega) (fun i9 h9 => by omega)
    · have c_19 : ¬ ((nI (tX f n E j).length) = (nI (ltx k).length)) := of_decide_eq_false c_19
      have n_19 : ¬ ((tX f n E j).length = (ltx k).length) := fun h9 => c_19 ((eq_nI (p := (tX f n E j).length) (n := (ltx k).length) (Nat.lt_trans (tx_len _ _ _ _) (by decide)) (by omega)).mpr h9)
      refine ps_st (S' := (23, [], [.int 0], M)) rfl rfl rfl ?_
      exact ps_ret rfl rfl (⟨by rw [show eqN (tX f n E j) (ltx k) = 0 from if_neg (fun h9 => by have h8 := congrArg List.length h9; omega)]; rfl, rfl⟩)
theorem dy_char0 {g : xe_G} {M : mi_H} {f : Nat → Int32} {n N q : Nat} {E : List (Nat × Nat)} {j : Nat}  (hV : PV g f n N E q M) (hj : j < 65536) : pt (mT g) 113 [.ref q, .int (nI j), .int 0] M (fun v M' => ((0 < (tX f n E j).length) ∧ v = some (.int (nI ((tX f n E j).getD 0 0))) ∧ M = M') ∨ ((¬ 0 < (tX f n E j).length) ∧ v = some (.int (-1)) ∧ M = M')) := by
  refine (dy_characterAt (i := 0) hV hj (by decide)).mono (fun v M' h => ?_)
  by_cases h1 : 0 < (tX f n E j).length
  · exact Or.inl ⟨h1, by rw [h.1, if_pos h1], h.2⟩
  · exact Or.inr ⟨h1, by rw [h.1, if_neg h1], h.2⟩
set_option maxHeartbeats 1000000 in
theorem dy_isClassText {g : xe_G} {M : mi_H} {f : Nat → Int32} {n N q : Nat} {E : List (Nat × Nat)} {j : Nat}  (hV : PV g f n N E q M) (hj : j < 65536) : pt (mT g) 120 [.ref q, .int (nI j)] M (fun v M' => (v = some (.int (nI (clsN (tX f n E j)))) ∧ M = M')) := by
  refine pt_in (b := mb_120 g) rfl (fun kf => ?_)
  show pl (mT g) kf (mb_120 g).2 (0, [(0, .ref q), (1, .int (nI j))], [], M) _
  have hV0 := hV
  obtain ⟨hL, H, m, qq, F, cc, hP, hT, hB, hb, hF, hS⟩ := hV0
  have h_q := hP.1
  have h_qq_1 := hP.2.1 1 (by decide) (by decide)
  have h_qq_2 := hP.2.1 2 (by decide) (by decide)
  have h_qq_3 := hP.2.1 3 (by decide) (by decide)
  have h_qq_4 := hP.2.1 4 (by decide) (by decide)
  have h_qq_5 := hP.2.1 5 (by decide) (by decide)
  have h_qq_6 := hP.2.2
  have hl8 := tx_len f n E j
  refine ps_st (S' := (1, [(0, .ref q), (1, .int (nI j))], [.ref q], M)) rfl rfl rfl ?_
  refine ps_st (S' := (2, [(0, .ref q), (1, .int (nI j))], [.int (nI j), .ref q], M)) rfl rfl rfl ?_
  refine ps_st (S' := (3, [(0, .ref q), (1, .int (nI j))], [.int 0, .int (nI j), .ref q], M)) rfl rfl rfl ?_
  refine pl_call (a := [.ref q, .int (nI j), .int 0]) (rest := []) rfl rfl rfl (dy_char0 (f := f) (n := n) (N := N) (q := q) (E := E) (j := j) (hV) (by omega)) (fun v1 M2 q3 => ?_)
  rcases q3 with q3 | q3
  · skip
    obtain ⟨q3_a, rfl, rfl⟩ := q3
    show pl _ _ _ (6, [(0, .ref q), (1, .int (nI j))], [.int (nI ((tX f n E j).getD 0 0))], M) _
    have hb_3 := tx_ch f n E j 0
    refine ps_st (S' := (8, [(0, .ref q), (1, .int (nI j))], [.int 91, .int (nI ((tX f n E j).getD 0 0))], M)) rfl rfl rfl ?_
    refine ps_if2 (S1 := (17, [(0, .ref q), (1, .int (nI j))], [], M)) (S2 := (11, [(0, .ref q), (1, .int (nI j))], [], M)) rfl rfl rfl (fun c_8 => ?_) (fun c_8 => ?_)
    · have c_8 : ¬ (nI ((tX f n E j).getD 0 0)) = 91 := of_decide_eq_true c_8
      have n_8 : ¬ ((tX f n E j).getD 0 0 = 91) := fun h9 => c_8 ((eq_nI (p := (tX f n E j).getD 0 0) (n := 91) (Nat.lt_trans (tx_ch _ _ _ _ _) (by decide)) (by decide)).mpr h9)
      refine ps_st (S' := (18, [(0, .ref q), (1, .int (nI j))], [.ref q], M)) rfl rfl rfl ?_
      refine ps_st (S' := (19, [(0, .ref q), (1, .int (nI j))], [.int (nI j), .ref q], M)) rfl rfl rfl ?_
      refine pl_call (a := [.ref q, .int (nI j)]) (rest := []) rfl rfl rfl (dy_tagOf (f := f) (n := n) (N := N) (q := q) (E := E) (j := j) (hV) (by omega)) (fun v4 M5 q6 => ?_)
      obtain ⟨rfl, rfl⟩ := q6
      show pl _ _ _ (22, [(0, .ref q), (1, .int (nI j))], [.int (nI (tg f E j))], M) _
      refine ps_st (S' := (23, [(0, .ref q), (1, .int (nI j))], [.int 1, .int (nI (tg f E j))], M)) rfl rfl rfl ?_
      refine ps_if2 (S1 := (35, [(0, .ref q), (1, .int (nI j))], [], M)) (S2 := (26, [(0, .ref q), (1, .int (nI j))], [], M)) rfl rfl rfl (fun c_23 => ?_) (fun c_23 => ?_)
      · have c_23 : ¬ (nI (tg f E j)) = 1 := of_decide_eq_true c_23
        have n_23 : ¬ (tg f E j = 1) := fun h9 => c_23 ((eq_nI (p := tg f E j) (n := 1) (Nat.lt_trans (tg_lt _ _ _) (by decide)) (by decide)).mpr h9)
        refine ps_st (S' := (36, [(0, .ref q), (1, .int (nI j))], [.int 0], M)) rfl rfl rfl ?_
        refine ps_st (S' := (37, [(2, .int 0), (0, .ref q), (1, .int (nI j))], [], M)) rfl rfl rfl ?_
        refine ps_st (S' := (38, [(2, .int 0), (0, .ref q), (1, .int (nI j))], [.int 0], M)) rfl rfl rfl ?_
        refine ps_st (S' := (39, [(2, .int 0), (0, .ref q), (1, .int (nI j))], [.ref q, .int 0], M)) rfl rfl rfl ?_
        refine ps_st (S' := (40, [(2, .int 0), (0, .ref q), (1, .int (nI j))], [.int (nI j), .ref q, .int 0], M)) rfl rfl rfl ?_
        refine pl_call (a := [.ref q, .int (nI j)]) (rest := [.int 0]) rfl rfl rfl (dy_textLength (f := f) (n := n) (N := N) (q := q) (E := E) (j := j) (hV) (by omega)) (fun v7 M8 q9 => ?_)
        obtain ⟨rfl, rfl⟩ := q9
        show pl _ _ _ (43, [(2, .int 0), (0, .ref q), (1, .int (nI j))], [.int (nI ((tX f n E j).length)), .int 0], M) _
        refine ps_st (S' := (44, [(2, .int 0), (0, .ref q), (1, .int (nI j))], [.int (0 + (nI ((tX f n E j).length)))], M)) rfl rfl rfl ?_
        rw [nI_add2 (p := 0) (k := (tX f n E j).length) (x := 0) (y := (nI ((tX f n E j).length))) rfl rfl (by omega)]
        show pl _ _ _ (_, [(2, .int 0), (0, .ref q), (1, .int (nI j))], [.int (nI (0 + (tX f n E j).length))], M) _
        refine ps_st (S' := (45, [(3, .int (nI (0 + (tX f n E j).length))), (2, .int 0), (0, .ref q), (1, .int (nI j))], [], M)) rfl rfl rfl ?_
        refine ps_st (S' := (46, [(3, .int (nI (0 + (tX f n E j).length))), (2, .int 0), (0, .ref q), (1, .int (nI j))], [.ref q], M)) rfl rfl rfl ?_
        refine ps_st (S' := (47, [(3, .int (nI (0 + (tX f n E j).length))), (2, .int 0), (0, .ref q), (1, .int (nI j))], [.int 0, .ref q], M)) rfl rfl rfl ?_
        refine ps_st (S' := (48, [(3, .int (nI (0 + (tX f n E j).length))), (2, .int 0), (0, .ref q), (1, .int (nI j))], [.int (nI (0 + (tX f n E j).length)), .int 0, .ref q], M)) rfl rfl rfl ?_
        refine pl_call (a := [.ref q, .int 0, .int (nI (0 + (tX f n E j).length))]) (rest := []) rfl rfl rfl (dy_nameEnd (q := q) (c := (fun i => (tX f n E j).getD i 0)) (B := 0) (e := (tX f n E j).length) (i0 := 0) (hP) (by rw [tx_no n_23]; simp; omega) (fun i9 h9 => by rw [tx_no n_23] at h9; simp at h9) (by omega)) (fun v10 M11 q12 => ?_)
        rcases q12 with q12 | q12
        · skip
          obtain ⟨q48_s, rfl, rfl⟩ := q12
          show pl _ _ _ (51, [(3, .int (nI (0 + (tX f n E j).length))), (2, .int 0), (0, .ref q), (1, .int (nI j))], [.int (-1)], M) _
          refine ps_st (S' := (52, [(3, .int (nI (0 + (tX f n E j).length))), (2, .int 0), (0, .ref q), (1, .int (nI j))], [.int (nI (0 + (tX f n E j).length)), .int (-1)], M)) rfl rfl rfl ?_
          refine ps_if2 (S1 := (59, [(3, .int (nI (0 + (tX f n E j).length))), (2, .int 0), (0, .ref q), (1, .int (nI j))], [], M)) (S2 := (55, [(3, .int (nI (0 + (tX f n E j).length))), (2, .int 0), (0, .ref q), (1, .int (nI j))], [], M)) rfl rfl rfl (fun c_52 => ?_) (fun c_52 => ?_)
          rotate_left
          · exact absurd (m1_ne (by omega)) (of_decide_eq_false c_52)
          refine ps_st (S' := (60, [], [.int 0], M)) rfl rfl rfl ?_
          exact ps_ret rfl rfl (⟨by rw [show clsN (tX f n E j) = 0 by unfold clsN; rw [if_neg (by omega), if_neg (by have h8 := q48_s; rw [Nat.sub_zero] at h8; rw [h8]; intro h7; cases h7)]]; rfl, rfl⟩)
        · skip
          obtain ⟨x13, q48_s, rfl, rfl⟩ := q12
          show pl _ _ _ (51, [(3, .int (nI (0 + (tX f n E j).length))), (2, .int 0), (0, .ref q), (1, .int (nI j))], [.int (nI (0 + x13))], M) _
          have hl_48 := s_nm_le q48_s
          refine ps_st (S' := (52, [(3, .int (nI (0 + (tX f n E j).length))), (2, .int 0), (0, .ref q), (1, .int (nI j))], [.int (nI (0 + (tX f n E j).length)), .int (nI (0 + x13))], M)) rfl rfl rfl ?_
          refine ps_if2 (S1 := (59, [(3, .int (nI (0 + (tX f n E j).length))), (2, .int 0), (0, .ref q), (1, .int (nI j))], [], M)) (S2 := (55, [(3, .int (nI (0 + (tX f n E j).length))), (2, .int 0), (0, .ref q), (1, .int (nI j))], [], M)) rfl rfl rfl (fun c_52 => ?_) (fun c_52 => ?_)
          · have c_52 : ¬ (nI (0 + x13)) = (nI (0 + (tX f n E j).length)) := of_decide_eq_true c_52
            have n_52 : ¬ (0 + x13 = 0 + (tX f n E j).length) := fun h9 => c_52 ((eq_nI (p := 0 + x13) (n := 0 + (tX f n E j).length) (by omega) (by omega)).mpr h9)
            refine ps_st (S' := (60, [], [.int 0], M)) rfl rfl rfl ?_
            exact ps_ret rfl rfl (⟨by rw [show clsN (tX f n E j) = 0 by unfold clsN; rw [if_neg (by omega), if_neg (by have h8 := q48_s; rw [Nat.sub_zero] at h8; rw [h8]; intro h7; simp only [Option.some.injEq] at h7; omega)]]; rfl, rfl⟩)
          · have c_52 : ¬ (¬ (nI (0 + x13)) = (nI (0 + (tX f n E j).length))) := of_decide_eq_false c_52
            have n_52 : 0 + x13 = 0 + (tX f n E j).length := (eq_nI (p := 0 + x13) (n := 0 + (tX f n E j).length) (by omega) (by omega)).mp (Decidable.not_not.mp c_52)
            refine ps_st (S' := (56, [(3, .int (nI (0 + (tX f n E j).length))), (2, .int 0), (0, .ref q), (1, .int (nI j))], [.int 1], M)) rfl rfl rfl ?_
            refine ps_st (S' := (60, [], [.int 1], M)) rfl rfl rfl ?_
            exact ps_ret rfl rfl (⟨by rw [show clsN (tX f n E j) = 1 by unfold clsN; rw [if_neg (by omega), if_pos (by have h8 := q48_s; rw [Nat.sub_zero] at h8; rw [h8]; congr 1; omega)]]; rfl, rfl⟩)
      · have c_23 : ¬ (¬ (nI (tg f E j)) = 1) := of_decide_eq_false c_23
        have n_23 : tg f E j = 1 := (eq_nI (p := tg f E j) (n := 1) (Nat.lt_trans (tg_lt _ _ _) (by decide)) (by decide)).mp (Decidable.not_not.mp c_23)
        refine ps_st (S' := (27, [(0, .ref q), (1, .int (nI j))], [.ref q], M)) rfl rfl rfl ?_
        refine ps_get (S' := (30, [(0, .ref q), (1, .int (nI j))], [.ref (qq 3)], M)) rfl h_q rfl rfl ?_
        refine ps_st (S' := (31, [(0, .ref q), (1, .int (nI j))], [.int (nI j), .ref (qq 3)], M)) rfl rfl rfl ?_
        refine ps_ald (S' := (32, [(0, .ref q), (1, .int (nI j))], [.int ((F 3) (Int32.toNatClampNeg (nI j)))], M)) rfl h_qq_3 rfl (fun i0_31 i1_31 => ?_)
        have ht1 : tg f E j = 1 := by omega
        obtain ⟨c0, a1, a2, a3, a4⟩ := hF.2.2.2.2 j ht1
        rw [show ((F 3) (Int32.toNatClampNeg (nI j))) = (nI c0) from (congrArg (F 3) (nI_toNat (k := j) (by omega))).trans (a1)]
        show pl _ _ _ (_, [(0, .ref q), (1, .int (nI j))], [.int (nI c0)], M) _
        refine ps_st (S' := (36, [(0, .ref q), (1, .int (nI j))], [.int (nI c0)], M)) rfl rfl rfl ?_
        refine ps_st (S' := (37, [(2, .int (nI c0)), (0, .ref q), (1, .int (nI j))], [], M)) rfl rfl rfl ?_
        refine ps_st (S' := (38, [(2, .int (nI c0)), (0, .ref q), (1, .int (nI j))], [.int (nI c0)], M)) rfl rfl rfl ?_
        refine ps_st (S' := (39, [(2, .int (nI c0)), (0, .ref q), (1, .int (nI j))], [.ref q, .int (nI c0)], M)) rfl rfl rfl ?_
        refine ps_st (S' := (40, [(2, .int (nI c0)), (0, .ref q), (1, .int (nI j))], [.int (nI j), .ref q, .int (nI c0)], M)) rfl rfl rfl ?_
        refine pl_call (a := [.ref q, .int (nI j)]) (rest := [.int (nI c0)]) rfl rfl rfl (dy_textLength (f := f) (n := n) (N := N) (q := q) (E := E) (j := j) (hV) (by omega)) (fun v14 M15 q16 => ?_)
        obtain ⟨rfl, rfl⟩ := q16
        show pl _ _ _ (43, [(2, .int (nI c0)), (0, .ref q), (1, .int (nI j))], [.int (nI ((tX f n E j).length)), .int (nI c0)], M) _
        refine ps_st (S' := (44, [(2, .int (nI c0)), (0, .ref q), (1, .int (nI j))], [.int ((nI c0) + (nI ((tX f n E j).length)))], M)) rfl rfl rfl ?_
        rw [nI_add1 (p := c0) (k := (tX f n E j).length) (x := (nI ((tX f n E j).length))) rfl (by omega)]
        show pl _ _ _ (_, [(2, .int (nI c0)), (0, .ref q), (1, .int (nI j))], [.int (nI (c0 + (tX f n E j).length))], M) _
        refine ps_st (S' := (45, [(3, .int (nI (c0 + (tX f n E j).length))), (2, .int (nI c0)), (0, .ref q), (1, .int (nI j))], [], M)) rfl rfl rfl ?_
        refine ps_st (S' := (46, [(3, .int (nI (c0 + (tX f n E j).length))), (2, .int (nI c0)), (0, .ref q), (1, .int (nI j))], [.ref q], M)) rfl rfl rfl ?_
        refine ps_st (S' := (47, [(3, .int (nI (c0 + (tX f n E j).length))), (2, .int (nI c0)), (0, .ref q), (1, .int (nI j))], [.int (nI c0), .ref q], M)) rfl rfl rfl ?_
        refine ps_st (S' := (48, [(3, .int (nI (c0 + (tX f n E j).length))), (2, .int (nI c0)), (0, .ref q), (1, .int (nI j))], [.int (nI (c0 + (tX f n E j).length)), .int (nI c0), .ref q], M)) rfl rfl rfl ?_
        refine pl_call (a := [.ref q, .int (nI c0), .int (nI (c0 + (tX f n E j).length))]) (rest := []) rfl rfl rfl (dy_nameEnd (q := q) (c := (fun i => (tX f n E j).getD i 0)) (B := c0) (e := (tX f n E j).length) (i0 := 0) (hP) (by omega) (fun i9 h9 => ⟨a4 i9 h9, tx_ch f n E j i9⟩) (by omega)) (fun v17 M18 q19 => ?_)
        rcases q19 with q19 | q19
        · skip
          obtain ⟨q48_s, rfl, rfl⟩ := q19
          show pl _ _ _ (51, [(3, .int (nI (c0 + (tX f n E j).length))), (2, .int (nI c0)), (0, .ref q), (1, .int (nI j))], [.int (-1)], M) _
          refine ps_st (S' := (52, [(3, .int (nI (c0 + (tX f n E j).length))), (2, .int (nI c0)), (0, .ref q), (1, .int (nI j))], [.int (nI (c0 + (tX f n E j).length)), .int (-1)], M)) rfl rfl rfl ?_
          refine ps_if2 (S1 := (59, [(3, .int (nI (c0 + (tX f n E j).length))), (2, .int (nI c0)), (0, .ref q), (1, .int (nI j))], [], M)) (S2 := (55, [(3, .int (nI (c0 + (tX f n E j).length))), (2, .int (nI c0)), (0, .ref q), (1, .int (nI j))], [], M)) rfl rfl rfl (fun c_52 => ?_) (fun c_52 => ?_)
          rotate_left
          · exact absurd (m1_ne (by omega)) (of_decide_eq_false c_52)
          refine ps_st (S' := (60, [], [.int 0], M)) rfl rfl rfl ?_
          exact ps_ret rfl rfl (⟨by rw [show clsN (tX f n E j) = 0 by unfold clsN; rw [if_neg (by omega), if_neg (by have h8 := q48_s; rw [Nat.sub_zero] at h8; rw [h8]; intro h7; cases h7)]]; rfl, rfl⟩)
        · skip
          obtain ⟨x20, q48_s, rfl, rfl⟩ := q19
          show pl _ _ _ (51, [(3, .int (nI (c0 + (tX f n E j).length))), (2, .int (nI c0)), (0, .ref q), (1, .int (nI j))], [.int (nI (c0 + x20))], M) _
          have hl_48 := s_nm_le q48_s
          refine ps_st (S' := (52, [(3, .int (nI (c0 + (tX f n E j).length))), (2, .int (nI c0)), (0, .ref q), (1, .int (nI j))], [.int (nI (c0 + (tX f n E j).length)), .int (nI (c0 + x20))], M)) rfl rfl rfl ?_
          refine ps_if2 (S1 := (59, [(3, .int (nI (c0 + (tX f n E j).length))), (2, .int (nI c0)), (0, .ref q), (1, .int (nI j))], [], M)) (S2 := (55, [(3, .int (nI (c0 + (tX f n E j).length))), (2, .int (nI c0)), (0, .ref q), (1, .int (nI j))], [], M)) rfl rfl rfl (fun c_52 => ?_) (fun c_52 => ?_)
          · have c_52 : ¬ (nI (c0 + x20)) = (nI (c0 + (tX f n E j).length)) := of_decide_eq_true c_52
            have n_52 : ¬ (c0 + x20 = c0 + (tX f n E j).length) := fun h9 => c_52 ((eq_nI (p := c0 + x20) (n := c0 + (tX f n E j).length) (by omega) (by omega)).mpr h9)
            refine ps_st (S' := (60, [], [.int 0], M)) rfl rfl rfl ?_
            exact ps_ret rfl rfl (⟨by rw [show clsN (tX f n E j) = 0 by unfold clsN; rw [if_neg (by omega), if_neg (by have h8 := q48_s; rw [Nat.sub_zero] at h8; rw [h8]; intro h7; simp only [Option.some.injEq] at h7; omega)]]; rfl, rfl⟩)
          · have c_52 : ¬ (¬ (nI (c0 + x20)) = (nI (c0 + (tX f n E j).length))) := of_decide_eq_false c_52
            have n_52 : c0 + x20 = c0 + (tX f n E j).length := (eq_nI (p := c0 + x20) (n := c0 + (tX f n E j).length) (by omega) (by omega)).mp (Decidable.not_not.mp c_52)
            refine ps_st (S' := (56, [(3, .int (nI (c0 + (tX f n E j).length))), (2, .int (nI c0)), (0, .ref q), (1, .int (nI j))], [.int 1], M)) rfl rfl rfl ?_
            refine ps_st (S' := (60, [], [.int 1], M)) rfl rfl rfl ?_
            exact ps_ret rfl rfl (⟨by rw [show clsN (tX f n E j) = 1 by unfold clsN; rw [if_neg (by omega), if_pos (by have h8 := q48_s; rw [Nat.sub_zero] at h8; rw [h8]; congr 1; omega)]]; rfl, rfl⟩)
    · have c_8 : ¬ (¬ (nI ((tX f n E j).getD 0 0)) = 91) := of_decide_eq_false c_8
      have n_8 : (tX f n E j).getD 0 0 = 91 := (eq_nI (p := (tX f n E j).getD 0 0) (n := 91) (Nat.lt_trans (tx_ch _ _ _ _ _) (by decide)) (by decide)).mp (Decidable.not_not.mp c_8)
      refine ps_st (S' := (12, [(0, .ref q), (1, .int (nI j))], [.ref q], M)) rfl rfl rfl ?_
      refine ps_st (S' := (13, [(0, .ref q), (1, .int (nI j))], [.int (nI j), .ref q], M)) rfl rfl rfl ?_
      refine pl_call (a := [.ref q, .int (nI j)]) (rest := []) rfl rfl rfl (dy_isFieldDescriptor (f := f) (n := n) (N := N) (q := q) (E := E) (j := j) (hV) (by omega)) (fun v21 M22 q23 => ?_)
      obtain ⟨rfl, rfl⟩ := q23
      show pl _ _ _ (16, [(0, .ref q), (1, .int (nI j))], [.int (nI (fldN (tX f n E j)))], M) _
      exact ps_reti rfl (⟨by rw [show clsN (tX f n E j) = fldN (tX f n E j) from if_pos (by omega)], rfl⟩)
  · skip
    obtain ⟨q3_a, rfl, rfl⟩ := q3
    show pl _ _ _ (6, [(0, .ref q), (1, .int (nI j))], [.int (-1)], M) _
    have hb_3 := tx_ch f n E j 0
    refine ps_st (S' := (8, [(0, .ref q), (1, .int (nI j))], [.int 91, .int (-1)], M)) rfl rfl rfl ?_
    refine ps_if2 (S1 := (17, [(0, .ref q), (1, .int (nI j))], [], M)) (S2 := (11, [(0, .ref q), (1, .int (nI j))], [], M)) rfl rfl rfl (fun c_8 => ?_) (fun c_8 => ?_)
    rotate_left
    · exact absurd (by decide) (of_decide_eq_false c_8)
    refine ps_st (S' := (18, [(0, .ref q), (1, .int (nI j))], [.ref q], M)) rfl rfl rfl ?_
    refine ps_st (S' := (19, [(0, .ref q), (1, .int (nI j))], [.int (nI j), .ref q], M)) rfl rfl rfl ?_
    refine pl_call (a := [.ref q, .int (nI j)]) (rest := []) rfl rfl rfl (dy_tagOf (f := f) (n := n) (N := N) (q := q) (E := E) (j := j) (hV) (by omega)) (fun v24 M25 q26 => ?_)
    obtain ⟨rfl, rfl⟩ := q26
    show pl _ _ _ (22, [(0, .ref q), (1, .int (nI j))], [.int (nI (tg f E j))], M) _
    refine ps_st (S' := (23, [(0, .ref q), (1, .int (nI j))], [.int 1, .int (nI (tg f E j))], M)) rfl rfl rfl ?_
    refine ps_if2 (S1 := (35, [(0, .ref q), (1, .int (nI j))], [], M)) (S2 := (26, [(0, .ref q), (1, .int (nI j))], [], M)) rfl rfl rfl (fun c_23 => ?_) (fun c_23 => ?_)
    · have c_23 : ¬ (nI (tg f E j)) = 1 := of_decide_eq_true c_23
      have n_23 : ¬ (tg f E j = 1) := fun h9 => c_23 ((eq_nI (p := tg f E j) (n := 1) (Nat.lt_trans (tg_lt _ _ _) (by decide)) (by decide)).mpr h9)
      refine ps_st (S' := (36, [(0, .ref q), (1, .int (nI j))], [.int 0], M)) rfl rfl rfl ?_
      refine ps_st (S' := (37, [(2, .int 0), (0, .ref q), (1, .int (nI j))], [], M)) rfl rfl rfl ?_
      refine ps_st (S' := (38, [(2, .int 0), (0, .ref q), (1, .int (nI j))], [.int 0], M)) rfl rfl rfl ?_
      refine ps_st (S' := (39, [(2, .int 0), (0, .ref q), (1, .int (nI j))], [.ref q, .int 0], M)) rfl rfl rfl ?_
      refine ps_st (S' := (40, [(2, .int 0), (0, .ref q), (1, .int (nI j))], [.int (nI j), .ref q, .int 0], M)) rfl rfl rfl ?_
      refine pl_call (a := [.ref q, .int (nI j)]) (rest := [.int 0]) rfl rfl rfl (dy_textLength (f := f) (n := n) (N := N) (q := q) (E := E) (j := j) (hV) (by omega)) (fun v27 M28 q29 => ?_)
      obtain ⟨rfl, rfl⟩ := q29
      show pl _ _ _ (43, [(2, .int 0), (0, .ref q), (1, .int (nI j))], [.int (nI ((tX f n E j).length)), .int 0], M) _
      refine ps_st (S' := (44, [(2, .int 0), (0, .ref q), (1, .int (nI j))], [.int (0 + (nI ((tX f n E j).length)))], M)) rfl rfl rfl ?_
      rw [nI_add2 (p := 0) (k := (tX f n E j).length) (x := 0) (y := (nI ((tX f n E j).length))) rfl rfl (by omega)]
      show pl _ _ _ (_, [(2, .int 0), (0, .ref q), (1, .int (nI j))], [.int (nI (0 + (tX f n E j).length))], M) _
      refine ps_st (S' := (45, [(3, .int (nI (0 + (tX f n E j).length))), (2, .int 0), (0, .ref q), (1, .int (nI j))], [], M)) rfl rfl rfl ?_
      refine ps_st (S' := (46, [(3, .int (nI (0 + (tX f n E j).length))), (2, .int 0), (0, .ref q), (1, .int (nI j))], [.ref q], M)) rfl rfl rfl ?_
      refine ps_st (S' := (47, [(3, .int (nI (0 + (tX f n E j).length))), (2, .int 0), (0, .ref q), (1, .int (nI j))], [.int 0, .ref q], M)) rfl rfl rfl ?_
      refine ps_st (S' := (48, [(3, .int (nI (0 + (tX f n E j).length))), (2, .int 0), (0, .ref q), (1, .int (nI j))], [.int (nI (0 + (tX f n E j).length)), .int 0, .ref q], M)) rfl rfl rfl ?_
      refine pl_call (a := [.ref q, .int 0, .int (nI (0 + (tX f n E j).length))]) (rest := []) rfl rfl rfl (dy_nameEnd (q := q) (c := (fun i => (tX f n E j).getD i 0)) (B := 0) (e := (tX f n E j).length) (i0 := 0) (hP) (by rw [tx_no n_23]; simp; omega) (fun i9 h9 => by rw [tx_no n_23] at h9; simp at h9) (by omega)) (fun v30 M31 q32 => ?_)
      rcases q32 with q32 | q32
      · skip
        obtain ⟨q48_s, rfl, rfl⟩ := q32
        show pl _ _ _ (51, [(3, .int (nI (0 + (tX f n E j).length))), (2, .int 0), (0, .ref q), (1, .int (nI j))], [.int (-1)], M) _
        refine ps_st (S' := (52, [(3, .int (nI (0 + (tX f n E j).length))), (2, .int 0), (0, .ref q), (1, .int (nI j))], [.int (nI (0 + (tX f n E j).length)), .int (-1)], M)) rfl rfl rfl ?_
        refine ps_if2 (S1 := (59, [(3, .int (nI (0 + (tX f n E j).length))), (2, .int 0), (0, .ref q), (1, .int (nI j))], [], M)) (S2 := (55, [(3, .int (nI (0 + (tX f n E j).length))), (2, .int 0), (0, .ref q), (1, .int (nI j))], [], M)) rfl rfl rfl (fun c_52 => ?_) (fun c_52 => ?_)
        rotate_left
        · exact absurd (m1_ne (by omega)) (of_decide_eq_false c_52)
        refine ps_st (S' := (60, [], [.int 0], M)) rfl rfl rfl ?_
        exact ps_ret rfl rfl (⟨by rw [show clsN (tX f n E j) = 0 by unfold clsN; rw [if_neg (gd_nil (by omega) (by decide)), if_neg (by have h8 := q48_s; rw [Nat.sub_zero] at h8; rw [h8]; intro h7; cases h7)]]; rfl, rfl⟩)
      · skip
        obtain ⟨x33, q48_s, rfl, rfl⟩ := q32
        show pl _ _ _ (51, [(3, .int (nI (0 + (tX f n E j).length))), (2, .int 0), (0, .ref q), (1, .int (nI j))], [.int (nI (0 + x33))], M) _
        have hl_48 := s_nm_le q48_s
        refine ps_st (S' := (52, [(3, .int (nI (0 + (tX f n E j).length))), (2, .int 0), (0, .ref q), (1, .int (nI j))], [.int (nI (0 + (tX f n E j).length)), .int (nI (0 + x33))], M)) rfl rfl rfl ?_
        refine ps_if2 (S1 := (59, [(3, .int (nI (0 + (tX f n E j).length))), (2, .int 0), (0, .ref q), (1, .int (nI j))], [], M)) (S2 := (55, [(3, .int (nI (0 + (tX f n E j).length))), (2, .int 0), (0, .ref q), (1, .int (nI j))], [], M)) rfl rfl rfl (fun c_52 => ?_) (fun c_52 => ?_)
        · have c_52 : ¬ (nI (0 + x33)) = (nI (0 + (tX f n E j).length)) := of_decide_eq_true c_52
          have n_52 : ¬ (0 + x33 = 0 + (tX f n E j).length) := fun h9 => c_52 ((eq_nI (p := 0 + x33) (n := 0 + (tX f n E j).length) (by omega) (by omega)).mpr h9)
          refine ps_st (S' := (60, [], [.int 0], M)) rfl rfl rfl ?_
          exact ps_ret rfl rfl (⟨by rw [show clsN (tX f n E j) = 0 by unfold clsN; rw [if_neg (gd_nil (by omega) (by decide)), if_neg (by have h8 := q48_s; rw [Nat.sub_zero] at h8; rw [h8]; intro h7; simp only [Option.some.injEq] at h7; omega)]]; rfl, rfl⟩)
        · have c_52 : ¬ (¬ (nI (0 + x33)) = (nI (0 + (tX f n E j).length))) := of_decide_eq_false c_52
          have n_52 : 0 + x33 = 0 + (tX f n E j).length := (eq_nI (p := 0 + x33) (n := 0 + (tX f n E j).length) (by omega) (by omega)).mp (Decidable.not_not.mp c_52)
          refine ps_st (S' := (56, [(3, .int (nI (0 + (tX f n E j).length))), (2, .int 0), (0, .ref q), (1, .int (nI j))], [.int 1], M)) rfl rfl rfl ?_
          refine ps_st (S' := (60, [], [.int 1], M)) rfl rfl rfl ?_
          exact ps_ret rfl rfl (⟨by rw [show clsN (tX f n E j) = 1 by unfold clsN; rw [if_neg (gd_nil (by omega) (by decide)), if_pos (by have h8 := q48_s; rw [Nat.sub_zero] at h8; rw [h8]; congr 1; omega)]]; rfl, rfl⟩)
    · have c_23 : ¬ (¬ (nI (tg f E j)) = 1) := of_decide_eq_false c_23
      have n_23 : tg f E j = 1 := (eq_nI (p := tg f E j) (n := 1) (Nat.lt_trans (tg_lt _ _ _) (by decide)) (by decide)).mp (Decidable.not_not.mp c_23)
      refine ps_st (S' := (27, [(0, .ref q), (1, .int (nI j))], [.ref q], M)) rfl rfl rfl ?_
      refine ps_get (S' := (30, [(0, .ref q), (1, .int (nI j))], [.ref (qq 3)], M)) rfl h_q rfl rfl ?_
      refine ps_st (S' := (31, [(0, .ref q), (1, .int (nI j))], [.int (nI j), .ref (qq 3)], M)) rfl rfl rfl ?_
      refine ps_ald (S' := (32, [(0, .ref q), (1, .int (nI j))], [.int ((F 3) (Int32.toNatClampNeg (nI j)))], M)) rfl h_qq_3 rfl (fun i0_31 i1_31 => ?_)
      have ht1 : tg f E j = 1 := by omega
      obtain ⟨c0, a1, a2, a3, a4⟩ := hF.2.2.2.2 j ht1
      rw [show ((F 3) (Int32.toNatClampNeg (nI j))) = (nI c0) from (congrArg (F 3) (nI_toNat (k := j) (by omega))).trans (a1)]
      show pl _ _ _ (_, [(0, .ref q), (1, .int (nI j))], [.int (nI c0)], M) _
      refine ps_st (S' := (36, [(0, .ref q), (1, .int (nI j))], [.int (nI c0)], M)) rfl rfl rfl ?_
      refine ps_st (S' := (37, [(2, .int (nI c0)), (0, .ref q), (1, .int (nI j))], [], M)) rfl rfl rfl ?_
      refine ps_st (S' := (38, [(2, .int (nI c0)), (0, .ref q), (1, .int (nI j))], [.int (nI c0)], M)) rfl rfl rfl ?_
      refine ps_st (S' := (39, [(2, .int (nI c0)), (0, .ref q), (1, .int (nI j))], [.ref q, .int (nI c0)], M)) rfl rfl rfl ?_
      refine ps_st (S' := (40, [(2, .int (nI c0)), (0, .ref q), (1, .int (nI j))], [.int (nI j), .ref q, .int (nI c0)], M)) rfl rfl rfl ?_
      refine pl_call (a := [.ref q, .int (nI j)]) (rest := [.int (nI c0)]) rfl rfl rfl (dy_textLength (f := f) (n := n) (N := N) (q := q) (E := E) (j := j) (hV) (by omega)) (fun v34 M35 q36 => ?_)
      obtain ⟨rfl, rfl⟩ := q36
      show pl _ _ _ (43, [(2, .int (nI c0)), (0, .ref q), (1, .int (nI j))], [.int (nI ((tX f n E j).length)), .int (nI c0)], M) _
      refine ps_st (S' := (44, [(2, .int (nI c0)), (0, .ref q), (1, .int (nI j))], [.int ((nI c0) + (nI ((tX f n E j).length)))], M)) rfl rfl rfl ?_
      rw [nI_add1 (p := c0) (k := (tX f n E j).length) (x := (nI ((tX f n E j).length))) rfl (by omega)]
      show pl _ _ _ (_, [(2, .int (nI c0)), (0, .ref q), (1, .int (nI j))], [.int (nI (c0 + (tX f n E j).length))], M) _
      refine ps_st (S' := (45, [(3, .int (nI (c0 + (tX f n E j).length))), (2, .int (nI c0)), (0, .ref q), (1, .int (nI j))], [], M)) rfl rfl rfl ?_
      refine ps_st (S' := (46, [(3, .int (nI (c0 + (tX f n E j).length))), (2, .int (nI c0)), (0, .ref q), (1, .int (nI j))], [.ref q], M)) rfl rfl rfl ?_
      refine ps_st (S' := (47, [(3, .int (nI (c0 + (tX f n E j).length))), (2, .int (nI c0)), (0, .ref q), (1, .int (nI j))], [.int (nI c0), .ref q], M)) rfl rfl rfl ?_
      refine ps_st (S' := (48, [(3, .int (nI (c0 + (tX f n E j).length))), (2, .int (nI c0)), (0, .ref q), (1, .int (nI j))], [.int (nI (c0 + (tX f n E j).length)), .int (nI c0), .ref q], M)) rfl rfl rfl ?_
      refine pl_call (a := [.ref q, .int (nI c0), .int (nI (c0 + (tX f n E j).length))]) (rest := []) rfl rfl rfl (dy_nameEnd (q := q) (c := (fun i => (tX f n E j).getD i 0)) (B := c0) (e := (tX f n E j).length) (i0 := 0) (hP) (by omega) (fun i9 h9 => ⟨a4 i9 h9, tx_ch f n E j i9⟩) (by omega)) (fun v37 M38 q39 => ?_)
      rcases q39 with q39 | q39
      · skip
        obtain ⟨q48_s, rfl, rfl⟩ := q39
        show pl _ _ _ (51, [(3, .int (nI (c0 + (tX f n E j).length))), (2, .int (nI c0)), (0, .ref q), (1, .int (nI j))], [.int (-1)], M) _
        refine ps_st (S' := (52, [(3, .int (nI (c0 + (tX f n E j).length))), (2, .int (nI c0)), (0, .ref q), (1, .int (nI j))], [.int (nI (c0 + (tX f n E j).length)), .int (-1)], M)) rfl rfl rfl ?_
        refine ps_if2 (S1 := (59, [(3, .int (nI (c0 + (tX f n E j).length))), (2, .int (nI c0)), (0, .ref q), (1, .int (nI j))], [], M)) (S2 := (55, [(3, .int (nI (c0 + (tX f n E j).length))), (2, .int (nI c0)), (0, .ref q), (1, .int (nI j))], [], M)) rfl rfl rfl (fun c_52 => ?_) (fun c_52 => ?_)
        rotate_left
        · exact absurd (m1_ne (by omega)) (of_decide_eq_false c_52)
        refine ps_st (S' := (60, [], [.int 0], M)) rfl rfl rfl ?_
        exact ps_ret rfl rfl (⟨by rw [show clsN (tX f n E j) = 0 by unfold clsN; rw [if_neg (gd_nil (by omega) (by decide)), if_neg (by have h8 := q48_s; rw [Nat.sub_zero] at h8; rw [h8]; intro h7; cases h7)]]; rfl, rfl⟩)
      · skip
        obtain ⟨x40, q48_s, rfl, rfl⟩ := q39
        show pl _ _ _ (51, [(3, .int (nI (c0 + (tX f n E j).length))), (2, .int (nI c0)), (0, .ref q), (1, .int (nI j))], [.int (nI (c0 + x40))], M) _
        have hl_48 := s_nm_le q48_s
        refine ps_st (S' := (52, [(3, .int (nI (c0 + (tX f n E j).length))), (2, .int (nI c0)), (0, .ref q), (1, .int (nI j))], [.int (nI (c0 + (tX f n E j).length)), .int (nI (c0 + x40))], M)) rfl rfl rfl ?_
        refine ps_if2 (S1 := (59, [(3, .int (nI (c0 + (tX f n E j).length))), (2, .int (nI c0)), (0, .ref q), (1, .int (nI j))], [], M)) (S2 := (55, [(3, .int (nI (c0 + (tX f n E j).length))), (2, .int (nI c0)), (0, .ref q), (1, .int (nI j))], [], M)) rfl rfl rfl (fun c_52 => ?_) (fun c_52 => ?_)
        · have c_52 : ¬ (nI (c0 + x40)) = (nI (c0 + (tX f n E j).length)) := of_decide_eq_true c_52
          have n_52 : ¬ (c0 + x40 = c0 + (tX f n E j).length) := fun h9 => c_52 ((eq_nI (p := c0 + x40) (n := c0 + (tX f n E j).length) (by omega) (by omega)).mpr h9)
          refine ps_st (S' := (60, [], [.int 0], M)) rfl rfl rfl ?_
          exact ps_ret rfl rfl (⟨by rw [show clsN (tX f n E j) = 0 by unfold clsN; rw [if_neg (gd_nil (by omega) (by decide)), if_neg (by have h8 := q48_s; rw [Nat.sub_zero] at h8; rw [h8]; intro h7; simp only [Option.some.injEq] at h7; omega)]]; rfl, rfl⟩)
        · have c_52 : ¬ (¬ (nI (c0 + x40)) = (nI (c0 + (tX f n E j).length))) := of_decide_eq_false c_52
          have n_52 : c0 + x40 = c0 + (tX f n E j).length := (eq_nI (p := c0 + x40) (n := c0 + (tX f n E j).length) (by omega) (by omega)).mp (Decidable.not_not.mp c_52)
          refine ps_st (S' := (56, [(3, .int (nI (c0 + (tX f n E j).length))), (2, .int (nI c0)), (0, .ref q), (1, .int (nI j))], [.int 1], M)) rfl rfl rfl ?_
          refine ps_st (S' := (60, [], [.int 1], M)) rfl rfl rfl ?_
          exact ps_ret rfl rfl (⟨by rw [show clsN (tX f n E j) = 1 by unfold clsN; rw [if_neg (gd_nil (by omega) (by decide)), if_pos (by have h8 := q48_s; rw [Nat.sub_zero] at h8; rw [h8]; congr 1; omega)]]; rfl, rfl⟩)
set_option maxHeartbeats 1000000 in
theorem dy_namesInit {g : xe_G} {M : mi_H} {f : Nat → Int32} {n N q : Nat} {E : List (Nat × Nat)} {j : Nat}  (hV : PV g f n N E q M) (hj : j < 65536) : pt (mT g) 129 [.ref q, .int (nI j)] M (fun v M' => (v = some (.int (nI (eqN (tX f n E (fi f E (se f E j))) (ltx 14)))) ∧ M = M')) := by
  refine pt_in (b := mb_129 g) rfl (fun kf => ?_)
  show pl (mT g) kf (mb_129 g).2 (0, [(0, .ref q), (1, .int (nI j))], [], M) _
  refine ps_st (S' := (1, [(0, .ref q), (1, .int (nI j))], [.ref q], M)) rfl rfl rfl ?_
  refine ps_st (S' := (2, [(0, .ref q), (1, .int (nI j))], [.ref q, .ref q], M)) rfl rfl rfl ?_
  refine ps_st (S' := (3, [(0, .ref q), (1, .int (nI j))], [.int (nI j), .ref q, .ref q], M)) rfl rfl rfl ?_
  refine pl_call (a := [.ref q, .int (nI j)]) (rest := [.ref q]) rfl rfl rfl (dy_nameOf (f := f) (n := n) (N := N) (q := q) (E := E) (j := j) (hV) (by omega)) (fun v1 M2 q3 => ?_)
  obtain ⟨rfl, rfl⟩ := q3
  show pl _ _ _ (6, [(0, .ref q), (1, .int (nI j))], [.int (nI (fi f E (se f E j))), .ref q], M) _
  refine ps_st (S' := (8, [(0, .ref q), (1, .int (nI j))], [.ref (g.2.1 14), .int (nI (fi f E (se f E j))), .ref q], M)) rfl rfl rfl ?_
  refine pl_call (a := [.ref q, .int (nI (fi f E (se f E j))), .ref (g.2.1 14)]) (rest := []) rfl rfl rfl (dy_textIs (f := f) (n := n) (N := N) (q := q) (E := E) (j := (fi f E (se f E j))) (k := 14) (hV) (fi_lt _ _ _) (by decide)) (fun v4 M5 q6 => ?_)
  obtain ⟨rfl, rfl⟩ := q6
  show pl _ _ _ (11, [(0, .ref q), (1, .int (nI j))], [.int (nI (eqN (tX f n E (fi f E (se f E j))) (ltx 14)))], M) _
  exact ps_reti rfl (⟨rfl, rfl⟩)
set_option maxHeartbeats 1000000 in
theorem dy_sameText {g : xe_G} {M : mi_H} {f : Nat → Int32} {n N q : Nat} {E : List (Nat × Nat)} {j k : Nat}  (hV : PV g f n N E q M) (hj : j < 65536) (hk : k < 65536) : pt (mT g) 133 [.ref q, .int (nI j), .int (nI k)] M (fun v M' => (v = some (.int (nI (smN f n E j k))) ∧ M = M')) := by
  refine pt_in (b := mb_133 g) rfl (fun kf => ?_)
  show pl (mT g) kf (mb_133 g).2 (0, [(0, .ref q), (1, .int (nI j)), (2, .int (nI k))], [], M) _
  have hV0 := hV
  obtain ⟨hL, H, m, qq, F, cc, hP, hT, hB, hb, hF, hS⟩ := hV0
  have h_q := hP.1
  have h_qq_1 := hP.2.1 1 (by decide) (by decide)
  have h_qq_2 := hP.2.1 2 (by decide) (by decide)
  have h_qq_3 := hP.2.1 3 (by decide) (by decide)
  have h_qq_4 := hP.2.1 4 (by decide) (by decide)
  have h_qq_5 := hP.2.1 5 (by decide) (by decide)
  have h_qq_6 := hP.2.2
  have LL : ∀ (kf : Nat), (∀ (i : Nat), (¬ j = k) → (tg f E j = 1) → (tg f E k = 1) → ((tX f n E j).length = (tX f n E k).length) → (i ≤ (tX f n E j).length) → (∀ i9, i9 < i → (tX f n E j).getD i9 0 = (tX f n E k).getD i9 0) →  pl (mT g) kf (mb_133 g).2 (44, [(0, .ref q), (1, .int (nI j)), (2, .int (nI k)), (3, .int (nI i))], [], M) (fun v M' => (v = some (.int (nI (smN f n E j k))) ∧ M = M'))) := by
    intro kf
    induction kf with
    | zero => exact (by intros; exact pl_0)
    | succ kf ih =>
      intro i hjk h1_j h1_k he hi hs
      obtain ⟨c0, a1, a2, a3, a4⟩ := hF.2.2.2.2 j h1_j
      obtain ⟨c1, b1, b2, b3, b4⟩ := hF.2.2.2.2 k h1_k
      refine ps_st1 (S' := (45, [(0, .ref q), (1, .int (nI j)), (2, .int (nI k)), (3, .int (nI i))], [.int (nI i)], M)) rfl rfl rfl ?_
      refine ps_st (S' := (46, [(0, .ref q), (1, .int (nI j)), (2, .int (nI k)), (3, .int (nI i))], [.ref q, .int (nI i)], M)) rfl rfl rfl ?_
      refine ps_get (S' := (49, [(0, .ref q), (1, .int (nI j)), (2, .int (nI k)), (3, .int (nI i))], [.ref (qq 4), .int (nI i)], M)) rfl h_q rfl rfl ?_
      refine ps_st (S' := (50, [(0, .ref q), (1, .int (nI j)), (2, .int (nI k)), (3, .int (nI i))], [.int (nI j), .ref (qq 4), .int (nI i)], M)) rfl rfl rfl ?_
      refine ps_ald (S' := (51, [(0, .ref q), (1, .int (nI j)), (2, .int (nI k)), (3, .int (nI i))], [.int ((F 4) (Int32.toNatClampNeg (nI j))), .int (nI i)], M)) rfl h_qq_4 rfl (fun i0_50 i1_50 => ?_)
      have hl_j := tx_len f n E j
      rw [show ((F 4) (Int32.toNatClampNeg (nI j))) = (nI (tX f n E j).length) from (congrArg (F 4) (nI_toNat (k := j) (by omega))).trans ((hF.2.2.2.2 j h1_j).choose_spec.2.1)]
      show pl _ _ _ (_, [(0, .ref q), (1, .int (nI j)), (2, .int (nI k)), (3, .int (nI i))], [.int (nI (tX f n E j).length), .int (nI i)], M) _
      refine ps_if2 (S1 := (91, [(0, .ref q), (1, .int (nI j)), (2, .int (nI k)), (3, .int (nI i))], [], M)) (S2 := (54, [(0, .ref q), (1, .int (nI j)), (2, .int (nI k)), (3, .int (nI i))], [], M)) rfl rfl rfl (fun c_51 => ?_) (fun c_51 => ?_)
      · have c_51 : (nI (tX f n E j).length) ≤ (nI i) := of_decide_eq_true c_51
        have n_51 : (tX f n E j).length ≤ i := (le_nI (p := (tX f n E j).length) (n := i) (Nat.lt_trans (tx_len _ _ _ _) (by decide)) (by omega)).mp c_51
        refine ps_st (S' := (92, [(0, .ref q), (1, .int (nI j)), (2, .int (nI k)), (3, .int (nI i))], [.int 1], M)) rfl rfl rfl ?_
        exact ps_ret rfl rfl (⟨by rw [show smN f n E j k = 1 from if_pos (Or.inr ⟨h1_j, h1_k, gd_ext he (fun i9 h9 => hs i9 (by omega))⟩)]; rfl, rfl⟩)
      · have c_51 : ¬ ((nI (tX f n E j).length) ≤ (nI i)) := of_decide_eq_false c_51
        have n_51 : ¬ ((tX f n E j).length ≤ i) := fun h9 => c_51 ((le_nI (p := (tX f n E j).length) (n := i) (Nat.lt_trans (tx_len _ _ _ _) (by decide)) (by omega)).mpr h9)
        refine ps_st (S' := (55, [(0, .ref q), (1, .int (nI j)), (2, .int (nI k)), (3, .int (nI i))], [.ref q], M)) rfl rfl rfl ?_
        refine ps_get (S' := (58, [(0, .ref q), (1, .int (nI j)), (2, .int (nI k)), (3, .int (nI i))], [.ref (qq 6)], M)) rfl h_q rfl rfl ?_
        refine ps_st (S' := (59, [(0, .ref q), (1, .int (nI j)), (2, .int (nI k)), (3, .int (nI i))], [.ref q, .ref (qq 6)], M)) rfl rfl rfl ?_
        refine ps_get (S' := (62, [(0, .ref q), (1, .int (nI j)), (2, .int (nI k)), (3, .int (nI i))], [.ref (qq 3), .ref (qq 6)], M)) rfl h_q rfl rfl ?_
        refine ps_st (S' := (63, [(0, .ref q), (1, .int (nI j)), (2, .int (nI k)), (3, .int (nI i))], [.int (nI j), .ref (qq 3), .ref (qq 6)], M)) rfl rfl rfl ?_
        refine ps_ald (S' := (64, [(0, .ref q), (1, .int (nI j)), (2, .int (nI k)), (3, .int (nI i))], [.int ((F 3) (Int32.toNatClampNeg (nI j))), .ref (qq 6)], M)) rfl h_qq_3 rfl (fun i0_63 i1_63 => ?_)
        rw [show ((F 3) (Int32.toNatClampNeg (nI j))) = (nI c0) from (congrArg (F 3) (nI_toNat (k := j) (by omega))).trans (a1)]
        show pl _ _ _ (_, [(0, .ref q), (1, .int (nI j)), (2, .int (nI k)), (3, .int (nI i))], [.int (nI c0), .ref (qq 6)], M) _
        refine ps_st (S' := (65, [(0, .ref q), (1, .int (nI j)), (2, .int (nI k)), (3, .int (nI i))], [.int (nI i), .int (nI c0), .ref (qq 6)], M)) rfl rfl rfl ?_
        refine ps_st (S' := (66, [(0, .ref q), (1, .int (nI j)), (2, .int (nI k)), (3, .int (nI i))], [.int ((nI c0) + (nI i)), .ref (qq 6)], M)) rfl rfl rfl ?_
        rw [nI_add1 (p := c0) (k := i) (x := (nI i)) rfl (by omega)]
        show pl _ _ _ (_, [(0, .ref q), (1, .int (nI j)), (2, .int (nI k)), (3, .int (nI i))], [.int (nI (c0 + i)), .ref (qq 6)], M) _
        refine ps_ald (S' := (67, [(0, .ref q), (1, .int (nI j)), (2, .int (nI k)), (3, .int (nI i))], [.int ((F 6) (Int32.toNatClampNeg (nI (c0 + i))))], M)) rfl h_qq_6 rfl (fun i0_66 i1_66 => ?_)
        have hb_66 := tx_ch f n E j i
        rw [show ((F 6) (Int32.toNatClampNeg (nI (c0 + i)))) = (nI ((tX f n E j).getD i 0)) from (congrArg (F 6) (nI_toNat (k := c0 + i) (by omega))).trans (a4 i (by omega))]
        show pl _ _ _ (_, [(0, .ref q), (1, .int (nI j)), (2, .int (nI k)), (3, .int (nI i))], [.int (nI ((tX f n E j).getD i 0))], M) _
        refine ps_st (S' := (68, [(0, .ref q), (1, .int (nI j)), (2, .int (nI k)), (3, .int (nI i))], [.ref q, .int (nI ((tX f n E j).getD i 0))], M)) rfl rfl rfl ?_
        refine ps_get (S' := (71, [(0, .ref q), (1, .int (nI j)), (2, .int (nI k)), (3, .int (nI i))], [.ref (qq 6), .int (nI ((tX f n E j).getD i 0))], M)) rfl h_q rfl rfl ?_
        refine ps_st (S' := (72, [(0, .ref q), (1, .int (nI j)), (2, .int (nI k)), (3, .int (nI i))], [.ref q, .ref (qq 6), .int (nI ((tX f n E j).getD i 0))], M)) rfl rfl rfl ?_
        refine ps_get (S' := (75, [(0, .ref q), (1, .int (nI j)), (2, .int (nI k)), (3, .int (nI i))], [.ref (qq 3), .ref (qq 6), .int (nI ((tX f n E j).getD i 0))], M)) rfl h_q rfl rfl ?_
        refine ps_st (S' := (76, [(0, .ref q), (1, .int (nI j)), (2, .int (nI k)), (3, .int (nI i))], [.int (nI k), .ref (qq 3), .ref (qq 6), .int (nI ((tX f n E j).getD i 0))], M)) rfl rfl rfl ?_
        refine ps_ald (S' := (77, [(0, .ref q), (1, .int (nI j)), (2, .int (nI k)), (3, .int (nI i))], [.int ((F 3) (Int32.toNatClampNeg (nI k))), .ref (qq 6), .int (nI ((tX f n E j).getD i 0))], M)) rfl h_qq_3 rfl (fun i0_76 i1_76 => ?_)
        rw [show ((F 3) (Int32.toNatClampNeg (nI k))) = (nI c1) from (congrArg (F 3) (nI_toNat (k := k) (by omega))).trans (b1)]
        show pl _ _ _ (_, [(0, .ref q), (1, .int (nI j)), (2, .int (nI k)), (3, .int (nI i))], [.int (nI c1), .ref (qq 6), .int (nI ((tX f n E j).getD i 0))], M) _
        refine ps_st (S' := (78, [(0, .ref q), (1, .int (nI j)), (2, .int (nI k)), (3, .int (nI i))], [.int (nI i), .int (nI c1), .ref (qq 6), .int (nI ((tX f n E j).getD i 0))], M)) rfl rfl rfl ?_
        refine ps_st (S' := (79, [(0, .ref q), (1, .int (nI j)), (2, .int (nI k)), (3, .int (nI i))], [.int ((nI c1) + (nI i)), .ref (qq 6), .int (nI ((tX f n E j).getD i 0))], M)) rfl rfl rfl ?_
        rw [nI_add1 (p := c1) (k := i) (x := (nI i)) rfl (by omega)]
        show pl _ _ _ (_, [(0, .ref q), (1, .int (nI j)), (2, .int (nI k)), (3, .int (nI i))], [.int (nI (c1 + i)), .ref (qq 6), .int (nI ((tX f n E j).getD i 0))], M) _
        refine ps_ald (S' := (80, [(0, .ref q), (1, .int (nI j)), (2, .int (nI k)), (3, .int (nI i))], [.int ((F 6) (Int32.toNatClampNeg (nI (c1 + i)))), .int (nI ((tX f n E j).getD i 0))], M)) rfl h_qq_6 rfl (fun i0_79 i1_79 => ?_)
        have hb_79 := tx_ch f n E k i
        rw [show ((F 6) (Int32.toNatClampNeg (nI (c1 + i)))) = (nI ((tX f n E k).getD i 0)) from (congrArg (F 6) (nI_toNat (k := c1 + i) (by omega))).trans (b4 i (by omega))]
        show pl _ _ _ (_, [(0, .ref q), (1, .int (nI j)), (2, .int (nI k)), (3, .int (nI i))], [.int (nI ((tX f n E k).getD i 0)), .int (nI ((tX f n E j).getD i 0))], M) _
        refine ps_if2 (S1 := (85, [(0, .ref q), (1, .int (nI j)), (2, .int (nI k)), (3, .int (nI i))], [], M)) (S2 := (83, [(0, .ref q), (1, .int (nI j)), (2, .int (nI k)), (3, .int (nI i))], [], M)) rfl rfl rfl (fun c_80 => ?_) (fun c_80 => ?_)
        · have c_80 : (nI ((tX f n E j).getD i 0)) = (nI ((tX f n E k).getD i 0)) := of_decide_eq_true c_80
          have n_80 : (tX f n E j).getD i 0 = (tX f n E k).getD i 0 := (eq_nI (p := (tX f n E j).getD i 0) (n := (tX f n E k).getD i 0) (Nat.lt_trans (tx_ch _ _ _ _ _) (by decide)) (Nat.lt_trans (tx_ch _ _ _ _ _) (by decide))).mp c_80
          refine ps_st (S' := (88, [(3, .int ((nI i) + 1)), (0, .ref q), (1, .int (nI j)), (2, .int (nI k))], [], M)) rfl rfl rfl ?_
          rw [nI_add1 (p := i) (k := 1) (x := 1) rfl (by omega)]
          show pl _ _ _ (_, [(3, .int (nI (i + 1))), (0, .ref q), (1, .int (nI j)), (2, .int (nI k))], [], M) _
          refine ps_st (S' := (44, [(0, .ref q), (1, .int (nI j)), (2, .int (nI k)), (3, .int (nI (i + 1)))], [], M)) rfl rfl rfl ?_
          exact ih (i + 1)  (hjk) (h1_j) (h1_k) (he) (by omega) (fun i9 h9 => by rcases Nat.lt_succ_iff_lt_or_eq.mp h9 with h8 | rfl; exact hs i9 h8; omega)
        · have c_80 : ¬ ((nI ((tX f n E j).getD i 0)) = (nI ((tX f n E k).getD i 0))) := of_decide_eq_false c_80
          have n_80 : ¬ ((tX f n E j).getD i 0 = (tX f n E k).getD i 0) := fun h9 => c_80 ((eq_nI (p := (tX f n E j).getD i 0) (n := (tX f n E k).getD i 0) (Nat.lt_trans (tx_ch _ _ _ _ _) (by decide)) (Nat.lt_trans (tx_ch _ _ _ _ _) (by decide))).mpr h9)
          refine ps_st (S' := (84, [(0, .ref q), (1, .int (nI j)), (2, .int (nI k)), (3, .int (nI i))], [.int 0], M)) rfl rfl rfl ?_
          exact ps_ret rfl rfl (⟨by rw [show smN f n E j k = 0 from if_neg (fun h0 => h0.elim (fun h9 => hjk h9) (fun h9 => by rw [h9.2.2] at n_80; exact n_80 rfl))]; rfl, rfl⟩)
  refine ps_st (S' := (1, [(0, .ref q), (1, .int (nI j)), (2, .int (nI k))], [.int (nI j)], M)) rfl rfl rfl ?_
  refine ps_st (S' := (2, [(0, .ref q), (1, .int (nI j)), (2, .int (nI k))], [.int (nI k), .int (nI j)], M)) rfl rfl rfl ?_
  refine ps_if2 (S1 := (7, [(0, .ref q), (1, .int (nI j)), (2, .int (nI k))], [], M)) (S2 := (5, [(0, .ref q), (1, .int (nI j)), (2, .int (nI k))], [], M)) rfl rfl rfl (fun c_2 => ?_) (fun c_2 => ?_)
  · have c_2 : ¬ (nI j) = (nI k) := of_decide_eq_true c_2
    have n_2 : ¬ (j = k) := fun h9 => c_2 ((eq_nI (p := j) (n := k) (by omega) (by omega)).mpr h9)
    refine ps_st (S' := (8, [(0, .ref q), (1, .int (nI j)), (2, .int (nI k))], [.ref q], M)) rfl rfl rfl ?_
    refine ps_st (S' := (9, [(0, .ref q), (1, .int (nI j)), (2, .int (nI k))], [.int (nI j), .ref q], M)) rfl rfl rfl ?_
    refine pl_call (a := [.ref q, .int (nI j)]) (rest := []) rfl rfl rfl (dy_tagOf (f := f) (n := n) (N := N) (q := q) (E := E) (j := j) (hV) (by omega)) (fun v1 M2 q3 => ?_)
    obtain ⟨rfl, rfl⟩ := q3
    show pl _ _ _ (12, [(0, .ref q), (1, .int (nI j)), (2, .int (nI k))], [.int (nI (tg f E j))], M) _
    refine ps_st (S' := (13, [(0, .ref q), (1, .int (nI j)), (2, .int (nI k))], [.int 1, .int (nI (tg f E j))], M)) rfl rfl rfl ?_
    refine ps_if2 (S1 := (40, [], [], M)) (S2 := (16, [(0, .ref q), (1, .int (nI j)), (2, .int (nI k))], [], M)) rfl rfl rfl (fun c_13 => ?_) (fun c_13 => ?_)
    · have c_13 : ¬ (nI (tg f E j)) = 1 := of_decide_eq_true c_13
      have n_13 : ¬ (tg f E j = 1) := fun h9 => c_13 ((eq_nI (p := tg f E j) (n := 1) (Nat.lt_trans (tg_lt _ _ _) (by decide)) (by decide)).mpr h9)
      refine ps_st (S' := (41, [], [.int 0], M)) rfl rfl rfl ?_
      exact ps_ret rfl rfl (⟨by rw [show smN f n E j k = 0 from if_neg (fun h0 => h0.elim (fun h9 => by omega) (fun h9 => by omega))]; rfl, rfl⟩)
    · have c_13 : ¬ (¬ (nI (tg f E j)) = 1) := of_decide_eq_false c_13
      have n_13 : tg f E j = 1 := (eq_nI (p := tg f E j) (n := 1) (Nat.lt_trans (tg_lt _ _ _) (by decide)) (by decide)).mp (Decidable.not_not.mp c_13)
      refine ps_st (S' := (17, [(0, .ref q), (1, .int (nI j)), (2, .int (nI k))], [.ref q], M)) rfl rfl rfl ?_
      refine ps_st (S' := (18, [(0, .ref q), (1, .int (nI j)), (2, .int (nI k))], [.int (nI k), .ref q], M)) rfl rfl rfl ?_
      refine pl_call (a := [.ref q, .int (nI k)]) (rest := []) rfl rfl rfl (dy_tagOf (f := f) (n := n) (N := N) (q := q) (E := E) (j := k) (hV) (by omega)) (fun v4 M5 q6 => ?_)
      obtain ⟨rfl, rfl⟩ := q6
      show pl _ _ _ (21, [(0, .ref q), (1, .int (nI j)), (2, .int (nI k))], [.int (nI (tg f E k))], M) _
      refine ps_st (S' := (22, [(0, .ref q), (1, .int (nI j)), (2, .int (nI k))], [.int 1, .int (nI (tg f E k))], M)) rfl rfl rfl ?_
      refine ps_if2 (S1 := (40, [], [], M)) (S2 := (25, [(0, .ref q), (1, .int (nI j)), (2, .int (nI k))], [], M)) rfl rfl rfl (fun c_22 => ?_) (fun c_22 => ?_)
      · have c_22 : ¬ (nI (tg f E k)) = 1 := of_decide_eq_true c_22
        have n_22 : ¬ (tg f E k = 1) := fun h9 => c_22 ((eq_nI (p := tg f E k) (n := 1) (Nat.lt_trans (tg_lt _ _ _) (by decide)) (by decide)).mpr h9)
        refine ps_st (S' := (41, [], [.int 0], M)) rfl rfl rfl ?_
        exact ps_ret rfl rfl (⟨by rw [show smN f n E j k = 0 from if_neg (fun h0 => h0.elim (fun h9 => by omega) (fun h9 => by omega))]; rfl, rfl⟩)
      · have c_22 : ¬ (¬ (nI (tg f E k)) = 1) := of_decide_eq_false c_22
        have n_22 : tg f E k = 1 := (eq_nI (p := tg f E k) (n := 1) (Nat.lt_trans (tg_lt _ _ _) (by decide)) (by decide)).mp (Decidable.not_not.mp c_22)
        refine ps_st (S' := (26, [(0, .ref q), (1, .int (nI j)), (2, .int (nI k))], [.ref q], M)) rfl rfl rfl ?_
        refine ps_get (S' := (29, [(0, .ref q), (1, .int (nI j)), (2, .int (nI k))], [.ref (qq 4)], M)) rfl h_q rfl rfl ?_
        refine ps_st (S' := (30, [(0, .ref q), (1, .int (nI j)), (2, .int (nI k))], [.int (nI j), .ref (qq 4)], M)) rfl rfl rfl ?_
        refine ps_ald (S' := (31, [(0, .ref q), (1, .int (nI j)), (2, .int (nI k))], [.int ((F 4) (Int32.toNatClampNeg (nI j)))], M)) rfl h_qq_4 rfl (fun i0_30 i1_30 => ?_)
        have hl_j := tx_len f n E j
        have h1_j : tg f E j = 1 := by omega
        rw [show ((F 4) (Int32.toNatClampNeg (nI j))) = (nI (tX f n E j).length) from (congrArg (F 4) (nI_toNat (k := j) (by omega))).trans ((hF.2.2.2.2 j h1_j).choose_spec.2.1)]
        show pl _ _ _ (_, [(0, .ref q), (1, .int (nI j)), (2, .int (nI k))], [.int (nI (tX f n E j).length)], M) _
        refine ps_st (S' := (32, [(0, .ref q), (1, .int (nI j)), (2, .int (nI k))], [.ref q, .int (nI (tX f n E j).length)], M)) rfl rfl rfl ?_
        refine ps_get (S' := (35, [(0, .ref q), (1, .int (nI j)), (2, .int (nI k))], [.ref (qq 4), .int (nI (tX f n E j).length)], M)) rfl h_q rfl rfl ?_
        refine ps_st (S' := (36, [(0, .ref q), (1, .int (nI j)), (2, .int (nI k))], [.int (nI k), .ref (qq 4), .int (nI (tX f n E j).length)], M)) rfl rfl rfl ?_
        refine ps_ald (S' := (37, [(0, .ref q), (1, .int (nI j)), (2, .int (nI k))], [.int ((F 4) (Int32.toNatClampNeg (nI k))), .int (nI (tX f n E j).length)], M)) rfl h_qq_4 rfl (fun i0_36 i1_36 => ?_)
        have hl_k := tx_len f n E k
        have h1_k : tg f E k = 1 := by omega
        rw [show ((F 4) (Int32.toNatClampNeg (nI k))) = (nI (tX f n E k).length) from (congrArg (F 4) (nI_toNat (k := k) (by omega))).trans ((hF.2.2.2.2 k h1_k).choose_spec.2.1)]
        show pl _ _ _ (_, [(0, .ref q), (1, .int (nI j)), (2, .int (nI k))], [.int (nI (tX f n E k).length), .int (nI (tX f n E j).length)], M) _
        refine ps_if2 (S1 := (42, [(0, .ref q), (1, .int (nI j)), (2, .int (nI k))], [], M)) (S2 := (40, [], [], M)) rfl rfl rfl (fun c_37 => ?_) (fun c_37 => ?_)
        · have c_37 : (nI (tX f n E j).length) = (nI (tX f n E k).length) := of_decide_eq_true c_37
          have n_37 : (tX f n E j).length = (tX f n E k).length := (eq_nI (p := (tX f n E j).length) (n := (tX f n E k).length) (Nat.lt_trans (tx_len _ _ _ _) (by decide)) (Nat.lt_trans (tx_len _ _ _ _) (by decide))).mp c_37
          refine ps_st (S' := (43, [(0, .ref q), (1, .int (nI j)), (2, .int (nI k))], [.int 0], M)) rfl rfl rfl ?_
          refine ps_st (S' := (44, [(0, .ref q), (1, .int (nI j)), (2, .int (nI k)), (3, .int 0)], [], M)) rfl rfl rfl ?_
          exact (LL kf) (0)  (by omega) (by omega) (by omega) (by omega) (by omega) (fun i9 h9 => by omega)
        · have c_37 : ¬ ((nI (tX f n E j).length) = (nI (tX f n E k).length)) := of_decide_eq_false c_37
          have n_37 : ¬ ((tX f n E j).length = (tX f n E k).length) := fun h9 => c_37 ((eq_nI (p := (tX f n E j).length) (n := (tX f n E k).length) (Nat.lt_trans (tx_len _ _ _ _) (by decide)) (Nat.lt_trans (tx_len _ _ _ _) (by decide))).mpr h9)
          refine ps_st (S' := (41, [], [.int 0], M)) rfl rfl rfl ?_
          exact ps_ret rfl rfl (⟨by rw [show smN f n E j k = 0 from if_neg (fun h0 => h0.elim (fun h9 => by omega) (fun h9 => by have h8 := congrArg List.length h9.2.2; omega))]; rfl, rfl⟩)
  · have c_2 : ¬ (¬ (nI j) = (nI k)) := of_decide_eq_false c_2
    have n_2 : j = k := (eq_nI (p := j) (n := k) (by omega) (by omega)).mp (Decidable.not_not.mp c_2)
    refine ps_st (S' := (6, [(0, .ref q), (1, .int (nI j)), (2, .int (nI k))], [.int 1], M)) rfl rfl rfl ?_
    exact ps_ret rfl rfl (⟨by rw [show smN f n E j k = 1 from if_pos (Or.inl (by omega))]; rfl, rfl⟩)
end
section
/-! checks of the pool (laid by wip/p4/d8.py) -/
/-! what the pool's entries must hold (my own text) -/
section CKA
variable (f : Nat → Int32) (n : Nat) (E : List (Nat × Nat))
def pairN (k : Nat) : Nat := if tg f E k = 12 ∧ tg f E (fi f E k) = 1 ∧ tg f E (se f E k) = 1 then 1 else 0
def ismN (k : Nat) : Nat := if tg f E k = 9 ∨ tg f E k = 10 ∨ tg f E k = 11 then 1 else 0
def memN (k : Nat) : Nat := if tg f E (fi f E k) = 7 ∧ tg f E (fi f E (fi f E k)) = 1 ∧ ¬ pairN f E (se f E k) = 0 then 1 else 0
def lnkN (k : Nat) : Nat :=
  if tg f E k = 7 ∨ tg f E k = 8 ∨ tg f E k = 16 ∨ tg f E k = 19 ∨ tg f E k = 20 then (if tg f E (fi f E k) = 1 then 1 else 0) else
  if tg f E k = 12 then pairN f E k else if tg f E k = 9 ∨ tg f E k = 10 ∨ tg f E k = 11 then memN f E k else
  if tg f E k = 15 then (if ismN f E (se f E k) = 0 then (if tg f E (se f E k) = 0 then 0 else 1) else memN f E (se f E k)) else
  if tg f E k = 17 ∨ tg f E k = 18 then pairN f E (se f E k) else 1
def nwtN (k : Nat) : Nat := if ¬ unqN (tX f n E (fi f E k)) = 0 ∧ (¬ fldN (tX f n E (se f E k)) = 0 ∨ ¬ mthN (tX f n E (se f E k)) = 0) then 1 else 0
def mrfN (k : Nat) : Nat := if mthN (tX f n E (se f E (se f E k))) = 0 then 0 else if angN (tX f n E (fi f E (se f E k))) = 0 then 1 else
  if tg f E k = 10 ∧ ¬ eqN (tX f n E (fi f E (se f E k))) (ltx 14) = 0 ∧ ¬ nresN (tX f n E (se f E (se f E k))) = 0 then 1 else 0
def hdlN (mj d e : Nat) : Nat :=
  if d = 1 ∨ d = 2 ∨ d = 3 ∨ d = 4 then (if tg f E e = 9 then 1 else 0) else
  if d = 5 then (if tg f E e = 10 ∧ eqN (tX f n E (fi f E (se f E e))) (ltx 14) = 0 then 1 else 0) else
  if d = 6 ∨ d = 7 then (if (tg f E e = 10 ∨ (tg f E e = 11 ∧ 52 ≤ mj)) ∧ eqN (tX f n E (fi f E (se f E e))) (ltx 14) = 0 then 1 else 0) else
  if d = 8 then (if tg f E e = 10 ∧ ¬ eqN (tX f n E (fi f E (se f E e))) (ltx 14) = 0 then 1 else 0) else
  if d = 9 then (if tg f E e = 11 ∧ eqN (tX f n E (fi f E (se f E e))) (ltx 14) = 0 then 1 else 0) else 0
def brkN (mj k : Nat) : Nat :=
  if tg f E k = 7 then (if clsN (tX f n E (fi f E k)) = 0 then 10 else 0) else
  if tg f E k = 12 then (if nwtN f n E k = 0 then 11 else 0) else
  if tg f E k = 9 then (if fldN (tX f n E (se f E (se f E k))) = 0 then 12 else 0) else
  if tg f E k = 10 ∨ tg f E k = 11 then (if mrfN f n E k = 0 then 12 else 0) else
  if tg f E k = 15 then (if hdlN f n E mj (fi f E k) (se f E k) = 0 then 13 else 0) else
  if tg f E k = 16 then (if mthN (tX f n E (fi f E k)) = 0 then 14 else 0) else
  if tg f E k = 17 then (if fldN (tX f n E (se f E (se f E k))) = 0 ∨ ¬ angN (tX f n E (fi f E (se f E k))) = 0 then 14 else 0) else
  if tg f E k = 18 then (if mthN (tX f n E (se f E (se f E k))) = 0 ∨ ¬ angN (tX f n E (fi f E (se f E k))) = 0 then 14 else 0) else 0
def tp (k : Nat) : Nat := match lk E k with
  | some p => p
  | none => 0
/-- the first entry that is wrong, of r from k on -/
def chkP (mj : Nat) : Nat → Nat → Option (Nat × Nat)
  | 0, _ => none
  | r + 1, k => if lnkN f E k = 0 then some (9, tp E k) else if brkN f n E mj k = 0 then chkP mj r (k + 1) else some (brkN f n E mj k, tp E k)
def chkB (bc : Nat) : Nat → Nat → Option (Nat × Nat)
  | 0, _ => none
  | r + 1, k => if (tg f E k = 17 ∨ tg f E k = 18) ∧ bc ≤ fi f E k then some (40, tp E k) else chkB bc r (k + 1)
end CKA
theorem le1_pair (f : Nat → Int32) (E : List (Nat × Nat)) (k : Nat) : pairN f E k < 2 := by unfold pairN; split <;> decide
theorem le1_ism (f : Nat → Int32) (E : List (Nat × Nat)) (k : Nat) : ismN f E k < 2 := by unfold ismN; split <;> decide
theorem le1_mem (f : Nat → Int32) (E : List (Nat × Nat)) (k : Nat) : memN f E k < 2 := by unfold memN; split <;> decide
theorem le1_lnk (f : Nat → Int32) (E : List (Nat × Nat)) (k : Nat) : lnkN f E k < 2 := by
  have h1 := le1_pair f E k
  have h2 := le1_mem f E k
  have h3 := le1_mem f E (se f E k)
  have h4 := le1_pair f E (se f E k)
  unfold lnkN
  repeat' split
  all_goals omega
theorem le1_nwt (f : Nat → Int32) (n : Nat) (E : List (Nat × Nat)) (k : Nat) : nwtN f n E k < 2 := by unfold nwtN; split <;> decide
theorem le1_mrf (f : Nat → Int32) (n : Nat) (E : List (Nat × Nat)) (k : Nat) : mrfN f n E k < 2 := by
  unfold mrfN
  repeat' split
  all_goals decide
theorem le1_hdl (f : Nat → Int32) (n : Nat) (E : List (Nat × Nat)) (mj d e : Nat) : hdlN f n E mj d e < 2 := by
  unfold hdlN
  repeat' split
  all_goals decide
theorem le_brk (f : Nat → Int32) (n : Nat) (E : List (Nat × Nat)) (mj k : Nat) : brkN f n E mj k < 15 := by
  unfold brkN
  repeat' split
  all_goals decide
theorem tp_of {f : Nat → Int32} {E : List (Nat × Nat)} {k : Nat} (h : ¬ tg f E k = 0) : lk E k = some (tp E k) := by
  unfold tg at h
  unfold tp
  split
  · rename_i p hp
    exact hp
  · rename_i hp
    rw [hp] at h
    exact absurd rfl h
theorem lnk_t {f : Nat → Int32} {E : List (Nat × Nat)} {k : Nat} (h : lnkN f E k = 0) : ¬ tg f E k = 0 := by
  intro h0
  unfold lnkN at h
  rw [if_neg (by omega), if_neg (by omega), if_neg (by omega), if_neg (by omega), if_neg (by omega)] at h
  cases h
theorem brk_t {f : Nat → Int32} {n : Nat} {E : List (Nat × Nat)} {mj k : Nat} (h : ¬ brkN f n E mj k = 0) : ¬ tg f E k = 0 := by
  intro h0
  unfold brkN at h
  rw [if_neg (by omega), if_neg (by omega), if_neg (by omega), if_neg (by omega), if_neg (by omega), if_neg (by omega), if_neg (by omega), if_neg (by omega)] at h
  exact h rfl
theorem chkP_st {f : Nat → Int32} {n : Nat} {E : List (Nat × Nat)} {mj N k : Nat} (h : k < N) : chkP f n E mj (N - k) k = if lnkN f E k = 0 then some (9, tp E k) else if brkN f n E mj k = 0 then chkP f n E mj (N - (k + 1)) (k + 1) else some (brkN f n E mj k, tp E k) := by
  rw [show N - k = (N - (k + 1)) + 1 by omega]
  rfl
theorem chkB_st {f : Nat → Int32} {E : List (Nat × Nat)} {bc N k : Nat} (h : k < N) : chkB f E bc (N - k) k = if (tg f E k = 17 ∨ tg f E k = 18) ∧ bc ≤ fi f E k then some (40, tp E k) else chkB f E bc (N - (k + 1)) (k + 1) := by
  rw [show N - k = (N - (k + 1)) + 1 by omega]
  rfl
set_option maxHeartbeats 1000000 in
theorem dk_pairHolds {g : xe_G} {M : mi_H} {f : Nat → Int32} {n N q : Nat} {E : List (Nat × Nat)} {o vd mj : Nat} {k : Nat} (h_o : M.1 o = some (ob 8 [.ref q, .int (nI mj), .ref vd])) (hV : PV g f n N E q M) (hmj : mj < 65536) (hk : k < 65536) : pt (mT g) 153 [.ref o, .int (nI k)] M (fun v M' => (v = some (.int (nI (pairN f E k))) ∧ M = M')) := by
  refine pt_in (b := mb_153 g) rfl (fun kf => ?_)
  show pl (mT g) kf (mb_153 g).2 (0, [(0, .ref o), (1, .int (nI k))], [], M) _
  refine ps_st (S' := (1, [(0, .ref o), (1, .int (nI k))], [.ref o], M)) rfl rfl rfl ?_
  refine ps_get (S' := (4, [(0, .ref o), (1, .int (nI k))], [.ref q], M)) rfl h_o rfl rfl ?_
  refine ps_st (S' := (5, [(0, .ref o), (1, .int (nI k))], [.int (nI k), .ref q], M)) rfl rfl rfl ?_
  refine pl_call (a := [.ref q, .int (nI k)]) (rest := []) rfl rfl rfl (dy_tagOf (f := f) (n := n) (N := N) (q := q) (E := E) (j := k) (hV) (by omega)) (fun v1 M2 q3 => ?_)
  obtain ⟨rfl, rfl⟩ := q3
  show pl _ _ _ (8, [(0, .ref o), (1, .int (nI k))], [.int (nI (tg f E k))], M) _
  refine ps_st (S' := (10, [(0, .ref o), (1, .int (nI k))], [.int 12, .int (nI (tg f E k))], M)) rfl rfl rfl ?_
  refine ps_if2 (S1 := (55, [], [], M)) (S2 := (13, [(0, .ref o), (1, .int (nI k))], [], M)) rfl rfl rfl (fun c_10 => ?_) (fun c_10 => ?_)
  · have c_10 : ¬ (nI (tg f E k)) = 12 := of_decide_eq_true c_10
    have n_10 : ¬ (tg f E k = 12) := fun h9 => c_10 ((eq_nI (p := tg f E k) (n := 12) (Nat.lt_trans (tg_lt _ _ _) (by decide)) (by decide)).mpr h9)
    refine ps_st (S' := (56, [], [.int 0], M)) rfl rfl rfl ?_
    exact ps_ret rfl rfl (⟨congrArg (fun x => some (Value.int (nI x))) (show 0 = pairN f E k from by
        unfold pairN
        first | ((repeat first | rw [if_pos (by omega)] | rw [if_neg (by omega)]) <;> first | rfl | omega) | ((repeat' split) <;> first | rfl | (exfalso; omega) | omega)), rfl⟩)
  · have c_10 : ¬ (¬ (nI (tg f E k)) = 12) := of_decide_eq_false c_10
    have n_10 : tg f E k = 12 := (eq_nI (p := tg f E k) (n := 12) (Nat.lt_trans (tg_lt _ _ _) (by decide)) (by decide)).mp (Decidable.not_not.mp c_10)
    refine ps_st (S' := (14, [(0, .ref o), (1, .int (nI k))], [.ref o], M)) rfl rfl rfl ?_
    refine ps_get (S' := (17, [(0, .ref o), (1, .int (nI k))], [.ref q], M)) rfl h_o rfl rfl ?_
    refine ps_st (S' := (18, [(0, .ref o), (1, .int (nI k))], [.ref o, .ref q], M)) rfl rfl rfl ?_
    refine ps_get (S' := (21, [(0, .ref o), (1, .int (nI k))], [.ref q, .ref q], M)) rfl h_o rfl rfl ?_
    refine ps_st (S' := (22, [(0, .ref o), (1, .int (nI k))], [.int (nI k), .ref q, .ref q], M)) rfl rfl rfl ?_
    refine pl_call (a := [.ref q, .int (nI k)]) (rest := [.ref q]) rfl rfl rfl (dy_firstIndex (f := f) (n := n) (N := N) (q := q) (E := E) (j := k) (hV) (by omega)) (fun v4 M5 q6 => ?_)
    obtain ⟨rfl, rfl⟩ := q6
    show pl _ _ _ (25, [(0, .ref o), (1, .int (nI k))], [.int (nI (fi f E k)), .ref q], M) _
    refine pl_call (a := [.ref q, .int (nI (fi f E k))]) (rest := []) rfl rfl rfl (dy_tagOf (f := f) (n := n) (N := N) (q := q) (E := E) (j := (fi f E k)) (hV) (fi_lt _ _ _)) (fun v7 M8 q9 => ?_)
    obtain ⟨rfl, rfl⟩ := q9
    show pl _ _ _ (28, [(0, .ref o), (1, .int (nI k))], [.int (nI (tg f E (fi f E k)))], M) _
    refine ps_st (S' := (29, [(0, .ref o), (1, .int (nI k))], [.int 1, .int (nI (tg f E (fi f E k)))], M)) rfl rfl rfl ?_
    refine ps_if2 (S1 := (55, [], [], M)) (S2 := (32, [(0, .ref o), (1, .int (nI k))], [], M)) rfl rfl rfl (fun c_29 => ?_) (fun c_29 => ?_)
    · have c_29 : ¬ (nI (tg f E (fi f E k))) = 1 := of_decide_eq_true c_29
      have n_29 : ¬ (tg f E (fi f E k) = 1) := fun h9 => c_29 ((eq_nI (p := tg f E (fi f E k)) (n := 1) (Nat.lt_trans (tg_lt _ _ _) (by decide)) (by decide)).mpr h9)
      refine ps_st (S' := (56, [], [.int 0], M)) rfl rfl rfl ?_
      exact ps_ret rfl rfl (⟨congrArg (fun x => some (Value.int (nI x))) (show 0 = pairN f E k from by
          unfold pairN
          first | ((repeat first | rw [if_pos (by omega)] | rw [if_neg (by omega)]) <;> first | rfl | omega) | ((repeat' split) <;> first | rfl | (exfalso; omega) | omega)), rfl⟩)
    · have c_29 : ¬ (¬ (nI (tg f E (fi f E k))) = 1) := of_decide_eq_false c_29
      have n_29 : tg f E (fi f E k) = 1 := (eq_nI (p := tg f E (fi f E k)) (n := 1) (Nat.lt_trans (tg_lt _ _ _) (by decide)) (by decide)).mp (Decidable.not_not.mp c_29)
      refine ps_st (S' := (33, [(0, .ref o), (1, .int (nI k))], [.ref o], M)) rfl rfl rfl ?_
      refine ps_get (S' := (36, [(0, .ref o), (1, .int (nI k))], [.ref q], M)) rfl h_o rfl rfl ?_
      refine ps_st (S' := (37, [(0, .ref o), (1, .int (nI k))], [.ref o, .ref q], M)) rfl rfl rfl ?_
      refine ps_get (S' := (40, [(0, .ref o), (1, .int (nI k))], [.ref q, .ref q], M)) rfl h_o rfl rfl ?_
      refine ps_st (S' := (41, [(0, .ref o), (1, .int (nI k))], [.int (nI k), .ref q, .ref q], M)) rfl rfl rfl ?_
      refine pl_call (a := [.ref q, .int (nI k)]) (rest := [.ref q]) rfl rfl rfl (dy_secondIndex (f := f) (n := n) (N := N) (q := q) (E := E) (j := k) (hV) (by omega)) (fun v10 M11 q12 => ?_)
      obtain ⟨rfl, rfl⟩ := q12
      show pl _ _ _ (44, [(0, .ref o), (1, .int (nI k))], [.int (nI (se f E k)), .ref q], M) _
      refine pl_call (a := [.ref q, .int (nI (se f E k))]) (rest := []) rfl rfl rfl (dy_tagOf (f := f) (n := n) (N := N) (q := q) (E := E) (j := (se f E k)) (hV) (se_lt _ _ _)) (fun v13 M14 q15 => ?_)
      obtain ⟨rfl, rfl⟩ := q15
      show pl _ _ _ (47, [(0, .ref o), (1, .int (nI k))], [.int (nI (tg f E (se f E k)))], M) _
      refine ps_st (S' := (48, [(0, .ref o), (1, .int (nI k))], [.int 1, .int (nI (tg f E (se f E k)))], M)) rfl rfl rfl ?_
      refine ps_if2 (S1 := (55, [], [], M)) (S2 := (51, [(0, .ref o), (1, .int (nI k))], [], M)) rfl rfl rfl (fun c_48 => ?_) (fun c_48 => ?_)
      · have c_48 : ¬ (nI (tg f E (se f E k))) = 1 := of_decide_eq_true c_48
        have n_48 : ¬ (tg f E (se f E k) = 1) := fun h9 => c_48 ((eq_nI (p := tg f E (se f E k)) (n := 1) (Nat.lt_trans (tg_lt _ _ _) (by decide)) (by decide)).mpr h9)
        refine ps_st (S' := (56, [], [.int 0], M)) rfl rfl rfl ?_
        exact ps_ret rfl rfl (⟨congrArg (fun x => some (Value.int (nI x))) (show 0 = pairN f E k from by
            unfold pairN
            first | ((repeat first | rw [if_pos (by omega)] | rw [if_neg (by omega)]) <;> first | rfl | omega) | ((repeat' split) <;> first | rfl | (exfalso; omega) | omega)), rfl⟩)
      · have c_48 : ¬ (¬ (nI (tg f E (se f E k))) = 1) := of_decide_eq_false c_48
        have n_48 : tg f E (se f E k) = 1 := (eq_nI (p := tg f E (se f E k)) (n := 1) (Nat.lt_trans (tg_lt _ _ _) (by decide)) (by decide)).mp (Decidable.not_not.mp c_48)
        refine ps_st (S' := (52, [(0, .ref o), (1, .int (nI k))], [.int 1], M)) rfl rfl rfl ?_
        refine ps_st (S' := (56, [], [.int 1], M)) rfl rfl rfl ?_
        exact ps_ret rfl rfl (⟨congrArg (fun x => some (Value.int (nI x))) (show 1 = pairN f E k from by
            unfold pairN
            first | ((repeat first | rw [if_pos (by omega)] | rw [if_neg (by omega)]) <;> first | rfl | omega) | ((repeat' split) <;> first | rfl | (exfalso; omega) | omega)), rfl⟩)
set_option maxHeartbeats 1000000 in
theorem dk_isMember {g : xe_G} {M : mi_H} {f : Nat → Int32} {n N q : Nat} {E : List (Nat × Nat)} {o vd mj : Nat} {k : Nat} (h_o : M.1 o = some (ob 8 [.ref q, .int (nI mj), .ref vd])) (hV : PV g f n N E q M) (hmj : mj < 65536) (hk : k < 65536) : pt (mT g) 148 [.ref o, .int (nI k)] M (fun v M' => (v = some (.int (nI (ismN f E k))) ∧ M = M')) := by
  refine pt_in (b := mb_148 g) rfl (fun kf => ?_)
  show pl (mT g) kf (mb_148 g).2 (0, [(0, .ref o), (1, .int (nI k))], [], M) _
  refine ps_st (S' := (1, [(0, .ref o), (1, .int (nI k))], [.ref o], M)) rfl rfl rfl ?_
  refine ps_get (S' := (4, [(0, .ref o), (1, .int (nI k))], [.ref q], M)) rfl h_o rfl rfl ?_
  refine ps_st (S' := (5, [(0, .ref o), (1, .int (nI k))], [.int (nI k), .ref q], M)) rfl rfl rfl ?_
  refine pl_call (a := [.ref q, .int (nI k)]) (rest := []) rfl rfl rfl (dy_tagOf (f := f) (n := n) (N := N) (q := q) (E := E) (j := k) (hV) (by omega)) (fun v1 M2 q3 => ?_)
  obtain ⟨rfl, rfl⟩ := q3
  show pl _ _ _ (8, [(0, .ref o), (1, .int (nI k))], [.int (nI (tg f E k))], M) _
  refine ps_st (S' := (9, [(2, .int (nI (tg f E k))), (0, .ref o), (1, .int (nI k))], [], M)) rfl rfl rfl ?_
  refine ps_st (S' := (10, [(2, .int (nI (tg f E k))), (0, .ref o), (1, .int (nI k))], [.int (nI (tg f E k))], M)) rfl rfl rfl ?_
  refine ps_st (S' := (12, [(2, .int (nI (tg f E k))), (0, .ref o), (1, .int (nI k))], [.int 9, .int (nI (tg f E k))], M)) rfl rfl rfl ?_
  refine ps_if2 (S1 := (27, [], [], M)) (S2 := (15, [(2, .int (nI (tg f E k))), (0, .ref o), (1, .int (nI k))], [], M)) rfl rfl rfl (fun c_12 => ?_) (fun c_12 => ?_)
  · have c_12 : (nI (tg f E k)) = 9 := of_decide_eq_true c_12
    have n_12 : tg f E k = 9 := (eq_nI (p := tg f E k) (n := 9) (Nat.lt_trans (tg_lt _ _ _) (by decide)) (by decide)).mp c_12
    refine ps_st (S' := (28, [], [.int 1], M)) rfl rfl rfl ?_
    refine ps_st (S' := (32, [], [.int 1], M)) rfl rfl rfl ?_
    exact ps_ret rfl rfl (⟨congrArg (fun x => some (Value.int (nI x))) (show 1 = ismN f E k from by
        unfold ismN
        first | ((repeat first | rw [if_pos (by omega)] | rw [if_neg (by omega)]) <;> first | rfl | omega) | ((repeat' split) <;> first | rfl | (exfalso; omega) | omega)), rfl⟩)
  · have c_12 : ¬ ((nI (tg f E k)) = 9) := of_decide_eq_false c_12
    have n_12 : ¬ (tg f E k = 9) := fun h9 => c_12 ((eq_nI (p := tg f E k) (n := 9) (Nat.lt_trans (tg_lt _ _ _) (by decide)) (by decide)).mpr h9)
    refine ps_st (S' := (16, [(2, .int (nI (tg f E k))), (0, .ref o), (1, .int (nI k))], [.int (nI (tg f E k))], M)) rfl rfl rfl ?_
    refine ps_st (S' := (18, [(2, .int (nI (tg f E k))), (0, .ref o), (1, .int (nI k))], [.int 10, .int (nI (tg f E k))], M)) rfl rfl rfl ?_
    refine ps_if2 (S1 := (27, [], [], M)) (S2 := (21, [(2, .int (nI (tg f E k))), (0, .ref o), (1, .int (nI k))], [], M)) rfl rfl rfl (fun c_18 => ?_) (fun c_18 => ?_)
    · have c_18 : (nI (tg f E k)) = 10 := of_decide_eq_true c_18
      have n_18 : tg f E k = 10 := (eq_nI (p := tg f E k) (n := 10) (Nat.lt_trans (tg_lt _ _ _) (by decide)) (by decide)).mp c_18
      refine ps_st (S' := (28, [], [.int 1], M)) rfl rfl rfl ?_
      refine ps_st (S' := (32, [], [.int 1], M)) rfl rfl rfl ?_
      exact ps_ret rfl rfl (⟨congrArg (fun x => some (Value.int (nI x))) (show 1 = ismN f E k from by
          unfold ismN
          first | ((repeat first | rw [if_pos (by omega)] | rw [if_neg (by omega)]) <;> first | rfl | omega) | ((repeat' split) <;> first | rfl | (exfalso; omega) | omega)), rfl⟩)
    · have c_18 : ¬ ((nI (tg f E k)) = 10) := of_decide_eq_false c_18
      have n_18 : ¬ (tg f E k = 10) := fun h9 => c_18 ((eq_nI (p := tg f E k) (n := 10) (Nat.lt_trans (tg_lt _ _ _) (by decide)) (by decide)).mpr h9)
      refine ps_st (S' := (22, [(2, .int (nI (tg f E k))), (0, .ref o), (1, .int (nI k))], [.int (nI (tg f E k))], M)) rfl rfl rfl ?_
      refine ps_st (S' := (24, [(2, .int (nI (tg f E k))), (0, .ref o), (1, .int (nI k))], [.int 11, .int (nI (tg f E k))], M)) rfl rfl rfl ?_
      refine ps_if2 (S1 := (31, [(2, .int (nI (tg f E k))), (0, .ref o), (1, .int (nI k))], [], M)) (S2 := (27, [], [], M)) rfl rfl rfl (fun c_24 => ?_) (fun c_24 => ?_)
      · have c_24 : ¬ (nI (tg f E k)) = 11 := of_decide_eq_true c_24
        have n_24 : ¬ (tg f E k = 11) := fun h9 => c_24 ((eq_nI (p := tg f E k) (n := 11) (Nat.lt_trans (tg_lt _ _ _) (by decide)) (by decide)).mpr h9)
        refine ps_st (S' := (32, [], [.int 0], M)) rfl rfl rfl ?_
        exact ps_ret rfl rfl (⟨congrArg (fun x => some (Value.int (nI x))) (show 0 = ismN f E k from by
            unfold ismN
            first | ((repeat first | rw [if_pos (by omega)] | rw [if_neg (by omega)]) <;> first | rfl | omega) | ((repeat' split) <;> first | rfl | (exfalso; omega) | omega)), rfl⟩)
      · have c_24 : ¬ (¬ (nI (tg f E k)) = 11) := of_decide_eq_false c_24
        have n_24 : tg f E k = 11 := (eq_nI (p := tg f E k) (n := 11) (Nat.lt_trans (tg_lt _ _ _) (by decide)) (by decide)).mp (Decidable.not_not.mp c_24)
        refine ps_st (S' := (28, [], [.int 1], M)) rfl rfl rfl ?_
        refine ps_st (S' := (32, [], [.int 1], M)) rfl rfl rfl ?_
        exact ps_ret rfl rfl (⟨congrArg (fun x => some (Value.int (nI x))) (show 1 = ismN f E k from by
            unfold ismN
            first | ((repeat first | rw [if_pos (by omega)] | rw [if_neg (by omega)]) <;> first | rfl | omega) | ((repeat' split) <;> first | rfl | (exfalso; omega) | omega)), rfl⟩)
set_option maxHeartbeats 1000000 in
theorem dk_memberHolds {g : xe_G} {M : mi_H} {f : Nat → Int32} {n N q : Nat} {E : List (Nat × Nat)} {o vd mj : Nat} {k : Nat} (h_o : M.1 o = some (ob 8 [.ref q, .int (nI mj), .ref vd])) (hV : PV g f n N E q M) (hmj : mj < 65536) (hk : k < 65536) : pt (mT g) 152 [.ref o, .int (nI k)] M (fun v M' => (v = some (.int (nI (memN f E k))) ∧ M = M')) := by
  refine pt_in (b := mb_152 g) rfl (fun kf => ?_)
  show pl (mT g) kf (mb_152 g).2 (0, [(0, .ref o), (1, .int (nI k))], [], M) _
  refine ps_st (S' := (1, [(0, .ref o), (1, .int (nI k))], [.ref o], M)) rfl rfl rfl ?_
  refine ps_get (S' := (4, [(0, .ref o), (1, .int (nI k))], [.ref q], M)) rfl h_o rfl rfl ?_
  refine ps_st (S' := (5, [(0, .ref o), (1, .int (nI k))], [.int (nI k), .ref q], M)) rfl rfl rfl ?_
  refine pl_call (a := [.ref q, .int (nI k)]) (rest := []) rfl rfl rfl (dy_firstIndex (f := f) (n := n) (N := N) (q := q) (E := E) (j := k) (hV) (by omega)) (fun v1 M2 q3 => ?_)
  obtain ⟨rfl, rfl⟩ := q3
  show pl _ _ _ (8, [(0, .ref o), (1, .int (nI k))], [.int (nI (fi f E k))], M) _
  refine ps_st (S' := (9, [(2, .int (nI (fi f E k))), (0, .ref o), (1, .int (nI k))], [], M)) rfl rfl rfl ?_
  refine ps_st (S' := (10, [(2, .int (nI (fi f E k))), (0, .ref o), (1, .int (nI k))], [.ref o], M)) rfl rfl rfl ?_
  refine ps_get (S' := (13, [(2, .int (nI (fi f E k))), (0, .ref o), (1, .int (nI k))], [.ref q], M)) rfl h_o rfl rfl ?_
  refine ps_st (S' := (14, [(2, .int (nI (fi f E k))), (0, .ref o), (1, .int (nI k))], [.int (nI (fi f E k)), .ref q], M)) rfl rfl rfl ?_
  refine pl_call (a := [.ref q, .int (nI (fi f E k))]) (rest := []) rfl rfl rfl (dy_tagOf (f := f) (n := n) (N := N) (q := q) (E := E) (j := (fi f E k)) (hV) (fi_lt _ _ _)) (fun v4 M5 q6 => ?_)
  obtain ⟨rfl, rfl⟩ := q6
  show pl _ _ _ (17, [(2, .int (nI (fi f E k))), (0, .ref o), (1, .int (nI k))], [.int (nI (tg f E (fi f E k)))], M) _
  refine ps_st (S' := (19, [(2, .int (nI (fi f E k))), (0, .ref o), (1, .int (nI k))], [.int 7, .int (nI (tg f E (fi f E k)))], M)) rfl rfl rfl ?_
  refine ps_if2 (S1 := (60, [], [], M)) (S2 := (22, [(2, .int (nI (fi f E k))), (0, .ref o), (1, .int (nI k))], [], M)) rfl rfl rfl (fun c_19 => ?_) (fun c_19 => ?_)
  · have c_19 : ¬ (nI (tg f E (fi f E k))) = 7 := of_decide_eq_true c_19
    have n_19 : ¬ (tg f E (fi f E k) = 7) := fun h9 => c_19 ((eq_nI (p := tg f E (fi f E k)) (n := 7) (Nat.lt_trans (tg_lt _ _ _) (by decide)) (by decide)).mpr h9)
    refine ps_st (S' := (61, [], [.int 0], M)) rfl rfl rfl ?_
    exact ps_ret rfl rfl (⟨congrArg (fun x => some (Value.int (nI x))) (show 0 = memN f E k from by
        unfold memN
        first | ((repeat first | rw [if_pos (by omega)] | rw [if_neg (by omega)]) <;> first | rfl | omega) | ((repeat' split) <;> first | rfl | (exfalso; omega) | omega)), rfl⟩)
  · have c_19 : ¬ (¬ (nI (tg f E (fi f E k))) = 7) := of_decide_eq_false c_19
    have n_19 : tg f E (fi f E k) = 7 := (eq_nI (p := tg f E (fi f E k)) (n := 7) (Nat.lt_trans (tg_lt _ _ _) (by decide)) (by decide)).mp (Decidable.not_not.mp c_19)
    refine ps_st (S' := (23, [(2, .int (nI (fi f E k))), (0, .ref o), (1, .int (nI k))], [.ref o], M)) rfl rfl rfl ?_
    refine ps_get (S' := (26, [(2, .int (nI (fi f E k))), (0, .ref o), (1, .int (nI k))], [.ref q], M)) rfl h_o rfl rfl ?_
    refine ps_st (S' := (27, [(2, .int (nI (fi f E k))), (0, .ref o), (1, .int (nI k))], [.ref o, .ref q], M)) rfl rfl rfl ?_
    refine ps_get (S' := (30, [(2, .int (nI (fi f E k))), (0, .ref o), (1, .int (nI k))], [.ref q, .ref q], M)) rfl h_o rfl rfl ?_
    refine ps_st (S' := (31, [(2, .int (nI (fi f E k))), (0, .ref o), (1, .int (nI k))], [.int (nI (fi f E k)), .ref q, .ref q], M)) rfl rfl rfl ?_
    refine pl_call (a := [.ref q, .int (nI (fi f E k))]) (rest := [.ref q]) rfl rfl rfl (dy_firstIndex (f := f) (n := n) (N := N) (q := q) (E := E) (j := (fi f E k)) (hV) (fi_lt _ _ _)) (fun v7 M8 q9 => ?_)
    obtain ⟨rfl, rfl⟩ := q9
    show pl _ _ _ (34, [(2, .int (nI (fi f E k))), (0, .ref o), (1, .int (nI k))], [.int (nI (fi f E (fi f E k))), .ref q], M) _
    refine pl_call (a := [.ref q, .int (nI (fi f E (fi f E k)))]) (rest := []) rfl rfl rfl (dy_tagOf (f := f) (n := n) (N := N) (q := q) (E := E) (j := (fi f E (fi f E k))) (hV) (fi_lt _ _ _)) (fun v10 M11 q12 => ?_)
    obtain ⟨rfl, rfl⟩ := q12
    show pl _ _ _ (37, [(2, .int (nI (fi f E k))), (0, .ref o), (1, .int (nI k))], [.int (nI (tg f E (fi f E (fi f E k))))], M) _
    refine ps_st (S' := (38, [(2, .int (nI (fi f E k))), (0, .ref o), (1, .int (nI k))], [.int 1, .int (nI (tg f E (fi f E (fi f E k))))], M)) rfl rfl rfl ?_
    refine ps_if2 (S1 := (60, [], [], M)) (S2 := (41, [(2, .int (nI (fi f E k))), (0, .ref o), (1, .int (nI k))], [], M)) rfl rfl rfl (fun c_38 => ?_) (fun c_38 => ?_)
    · have c_38 : ¬ (nI (tg f E (fi f E (fi f E k)))) = 1 := of_decide_eq_true c_38
      have n_38 : ¬ (tg f E (fi f E (fi f E k)) = 1) := fun h9 => c_38 ((eq_nI (p := tg f E (fi f E (fi f E k))) (n := 1) (Nat.lt_trans (tg_lt _ _ _) (by decide)) (by decide)).mpr h9)
      refine ps_st (S' := (61, [], [.int 0], M)) rfl rfl rfl ?_
      exact ps_ret rfl rfl (⟨congrArg (fun x => some (Value.int (nI x))) (show 0 = memN f E k from by
          unfold memN
          first | ((repeat first | rw [if_pos (by omega)] | rw [if_neg (by omega)]) <;> first | rfl | omega) | ((repeat' split) <;> first | rfl | (exfalso; omega) | omega)), rfl⟩)
    · have c_38 : ¬ (¬ (nI (tg f E (fi f E (fi f E k)))) = 1) := of_decide_eq_false c_38
      have n_38 : tg f E (fi f E (fi f E k)) = 1 := (eq_nI (p := tg f E (fi f E (fi f E k))) (n := 1) (Nat.lt_trans (tg_lt _ _ _) (by decide)) (by decide)).mp (Decidable.not_not.mp c_38)
      refine ps_st (S' := (42, [(2, .int (nI (fi f E k))), (0, .ref o), (1, .int (nI k))], [.ref o], M)) rfl rfl rfl ?_
      refine ps_st (S' := (43, [(2, .int (nI (fi f E k))), (0, .ref o), (1, .int (nI k))], [.ref o, .ref o], M)) rfl rfl rfl ?_
      refine ps_get (S' := (46, [(2, .int (nI (fi f E k))), (0, .ref o), (1, .int (nI k))], [.ref q, .ref o], M)) rfl h_o rfl rfl ?_
      refine ps_st (S' := (47, [(2, .int (nI (fi f E k))), (0, .ref o), (1, .int (nI k))], [.int (nI k), .ref q, .ref o], M)) rfl rfl rfl ?_
      refine pl_call (a := [.ref q, .int (nI k)]) (rest := [.ref o]) rfl rfl rfl (dy_secondIndex (f := f) (n := n) (N := N) (q := q) (E := E) (j := k) (hV) (by omega)) (fun v13 M14 q15 => ?_)
      obtain ⟨rfl, rfl⟩ := q15
      show pl _ _ _ (50, [(2, .int (nI (fi f E k))), (0, .ref o), (1, .int (nI k))], [.int (nI (se f E k)), .ref o], M) _
      refine pl_call (a := [.ref o, .int (nI (se f E k))]) (rest := []) rfl rfl rfl (dk_pairHolds (f := f) (n := n) (N := N) (q := q) (E := E) (o := o) (vd := vd) (mj := mj) (k := (se f E k)) h_o (hV) (hmj) (se_lt _ _ _)) (fun v16 M17 q18 => ?_)
      obtain ⟨rfl, rfl⟩ := q18
      show pl _ _ _ (53, [(2, .int (nI (fi f E k))), (0, .ref o), (1, .int (nI k))], [.int (nI (pairN f E (se f E k)))], M) _
      refine ps_if (S1 := (60, [], [], M)) (S2 := (56, [(2, .int (nI (fi f E k))), (0, .ref o), (1, .int (nI k))], [], M)) rfl rfl rfl (fun c_53 => ?_) (fun c_53 => ?_)
      · have c_53 : (nI (pairN f E (se f E k))) = 0 := of_decide_eq_true c_53
        have n_53 : pairN f E (se f E k) = 0 := (eq_nI (p := pairN f E (se f E k)) (n := 0) (Nat.lt_trans (le1_pair _ _ _) (by decide)) (by decide)).mp c_53
        refine ps_st (S' := (61, [], [.int 0], M)) rfl rfl rfl ?_
        exact ps_ret rfl rfl (⟨congrArg (fun x => some (Value.int (nI x))) (show 0 = memN f E k from by
            unfold memN
            first | ((repeat first | rw [if_pos (by omega)] | rw [if_neg (by omega)]) <;> first | rfl | omega) | ((repeat' split) <;> first | rfl | (exfalso; omega) | omega)), rfl⟩)
      · have c_53 : ¬ ((nI (pairN f E (se f E k))) = 0) := of_decide_eq_false c_53
        have n_53 : ¬ (pairN f E (se f E k) = 0) := fun h9 => c_53 ((eq_nI (p := pairN f E (se f E k)) (n := 0) (Nat.lt_trans (le1_pair _ _ _) (by decide)) (by decide)).mpr h9)
        refine ps_st (S' := (57, [(2, .int (nI (fi f E k))), (0, .ref o), (1, .int (nI k))], [.int 1], M)) rfl rfl rfl ?_
        refine ps_st (S' := (61, [], [.int 1], M)) rfl rfl rfl ?_
        exact ps_ret rfl rfl (⟨congrArg (fun x => some (Value.int (nI x))) (show 1 = memN f E k from by
            unfold memN
            first | ((repeat first | rw [if_pos (by omega)] | rw [if_neg (by omega)]) <;> first | rfl | omega) | ((repeat' split) <;> first | rfl | (exfalso; omega) | omega)), rfl⟩)
set_option maxHeartbeats 1000000 in
theorem dk_linksHold {g : xe_G} {M : mi_H} {f : Nat → Int32} {n N q : Nat} {E : List (Nat × Nat)} {o vd mj : Nat} {k : Nat} (h_o : M.1 o = some (ob 8 [.ref q, .int (nI mj), .ref vd])) (hV : PV g f n N E q M) (hmj : mj < 65536) (hk : k < 65536) : pt (mT g) 151 [.ref o, .int (nI k)] M (fun v M' => (v = some (.int (nI (lnkN f E k))) ∧ M = M')) := by
  refine pt_in (b := mb_151 g) rfl (fun kf => ?_)
  show pl (mT g) kf (mb_151 g).2 (0, [(0, .ref o), (1, .int (nI k))], [], M) _
  refine ps_st (S' := (1, [(0, .ref o), (1, .int (nI k))], [.ref o], M)) rfl rfl rfl ?_
  refine ps_get (S' := (4, [(0, .ref o), (1, .int (nI k))], [.ref q], M)) rfl h_o rfl rfl ?_
  refine ps_st (S' := (5, [(0, .ref o), (1, .int (nI k))], [.int (nI k), .ref q], M)) rfl rfl rfl ?_
  refine pl_call (a := [.ref q, .int (nI k)]) (rest := []) rfl rfl rfl (dy_tagOf (f := f) (n := n) (N := N) (q := q) (E := E) (j := k) (hV) (by omega)) (fun v1 M2 q3 => ?_)
  obtain ⟨rfl, rfl⟩ := q3
  show pl _ _ _ (8, [(0, .ref o), (1, .int (nI k))], [.int (nI (tg f E k))], M) _
  refine pl_sw rfl (fun t_8 et_8 => ?_)
  have ht_8 : t_8 ∈ [80, 105, 111, 117, 159, 172] := mi_sw_sub et_8 (by decide)
  simp only [List.mem_cons, List.not_mem_nil, or_false] at ht_8
  rcases ht_8 with rfl | rfl | rfl | rfl | rfl | rfl
  · show pl _ _ _ (80, [(0, .ref o), (1, .int (nI k))], [], M) _
    have m_8 := sw_nat (t := tg f E k) (Nat.lt_trans (tg_lt _ _ _) (by decide)) et_8
    simp at m_8
    refine ps_st (S' := (81, [(0, .ref o), (1, .int (nI k))], [.ref o], M)) rfl rfl rfl ?_
    refine ps_get (S' := (84, [(0, .ref o), (1, .int (nI k))], [.ref q], M)) rfl h_o rfl rfl ?_
    refine ps_st (S' := (85, [(0, .ref o), (1, .int (nI k))], [.ref o, .ref q], M)) rfl rfl rfl ?_
    refine ps_get (S' := (88, [(0, .ref o), (1, .int (nI k))], [.ref q, .ref q], M)) rfl h_o rfl rfl ?_
    refine ps_st (S' := (89, [(0, .ref o), (1, .int (nI k))], [.int (nI k), .ref q, .ref q], M)) rfl rfl rfl ?_
    refine pl_call (a := [.ref q, .int (nI k)]) (rest := [.ref q]) rfl rfl rfl (dy_firstIndex (f := f) (n := n) (N := N) (q := q) (E := E) (j := k) (hV) (by omega)) (fun v4 M5 q6 => ?_)
    obtain ⟨rfl, rfl⟩ := q6
    show pl _ _ _ (92, [(0, .ref o), (1, .int (nI k))], [.int (nI (fi f E k)), .ref q], M) _
    refine pl_call (a := [.ref q, .int (nI (fi f E k))]) (rest := []) rfl rfl rfl (dy_tagOf (f := f) (n := n) (N := N) (q := q) (E := E) (j := (fi f E k)) (hV) (fi_lt _ _ _)) (fun v7 M8 q9 => ?_)
    obtain ⟨rfl, rfl⟩ := q9
    show pl _ _ _ (95, [(0, .ref o), (1, .int (nI k))], [.int (nI (tg f E (fi f E k)))], M) _
    refine ps_st (S' := (96, [(0, .ref o), (1, .int (nI k))], [.int 1, .int (nI (tg f E (fi f E k)))], M)) rfl rfl rfl ?_
    refine ps_if2 (S1 := (103, [(0, .ref o), (1, .int (nI k))], [], M)) (S2 := (99, [(0, .ref o), (1, .int (nI k))], [], M)) rfl rfl rfl (fun c_96 => ?_) (fun c_96 => ?_)
    · have c_96 : ¬ (nI (tg f E (fi f E k))) = 1 := of_decide_eq_true c_96
      have n_96 : ¬ (tg f E (fi f E k) = 1) := fun h9 => c_96 ((eq_nI (p := tg f E (fi f E k)) (n := 1) (Nat.lt_trans (tg_lt _ _ _) (by decide)) (by decide)).mpr h9)
      refine ps_st (S' := (104, [], [.int 0], M)) rfl rfl rfl ?_
      exact ps_ret rfl rfl (⟨congrArg (fun x => some (Value.int (nI x))) (show 0 = lnkN f E k from by
          unfold lnkN
          first | ((repeat first | rw [if_pos (by omega)] | rw [if_neg (by omega)]) <;> first | rfl | omega) | ((repeat' split) <;> first | rfl | (exfalso; omega) | omega)), rfl⟩)
    · have c_96 : ¬ (¬ (nI (tg f E (fi f E k))) = 1) := of_decide_eq_false c_96
      have n_96 : tg f E (fi f E k) = 1 := (eq_nI (p := tg f E (fi f E k)) (n := 1) (Nat.lt_trans (tg_lt _ _ _) (by decide)) (by decide)).mp (Decidable.not_not.mp c_96)
      refine ps_st (S' := (100, [(0, .ref o), (1, .int (nI k))], [.int 1], M)) rfl rfl rfl ?_
      refine ps_st (S' := (104, [], [.int 1], M)) rfl rfl rfl ?_
      exact ps_ret rfl rfl (⟨congrArg (fun x => some (Value.int (nI x))) (show 1 = lnkN f E k from by
          unfold lnkN
          first | ((repeat first | rw [if_pos (by omega)] | rw [if_neg (by omega)]) <;> first | rfl | omega) | ((repeat' split) <;> first | rfl | (exfalso; omega) | omega)), rfl⟩)
  · show pl _ _ _ (105, [(0, .ref o), (1, .int (nI k))], [], M) _
    have m_8 := sw_nat (t := tg f E k) (Nat.lt_trans (tg_lt _ _ _) (by decide)) et_8
    simp at m_8
    refine ps_st (S' := (106, [(0, .ref o), (1, .int (nI k))], [.ref o], M)) rfl rfl rfl ?_
    refine ps_st (S' := (107, [(0, .ref o), (1, .int (nI k))], [.int (nI k), .ref o], M)) rfl rfl rfl ?_
    refine pl_call (a := [.ref o, .int (nI k)]) (rest := []) rfl rfl rfl (dk_pairHolds (f := f) (n := n) (N := N) (q := q) (E := E) (o := o) (vd := vd) (mj := mj) (k := k) h_o (hV) (hmj) (by omega)) (fun v10 M11 q12 => ?_)
    obtain ⟨rfl, rfl⟩ := q12
    show pl _ _ _ (110, [(0, .ref o), (1, .int (nI k))], [.int (nI (pairN f E k))], M) _
    exact ps_reti rfl (⟨congrArg (fun x => some (Value.int (nI x))) (show pairN f E k = lnkN f E k from by
        unfold lnkN
        first | ((repeat first | rw [if_pos (by omega)] | rw [if_neg (by omega)]) <;> first | rfl | omega) | ((repeat' split) <;> first | rfl | (exfalso; omega) | omega)), rfl⟩)
  · show pl _ _ _ (111, [(0, .ref o), (1, .int (nI k))], [], M) _
    have m_8 := sw_nat (t := tg f E k) (Nat.lt_trans (tg_lt _ _ _) (by decide)) et_8
    simp at m_8
    refine ps_st (S' := (112, [(0, .ref o), (1, .int (nI k))], [.ref o], M)) rfl rfl rfl ?_
    refine ps_st (S' := (113, [(0, .ref o), (1, .int (nI k))], [.int (nI k), .ref o], M)) rfl rfl rfl ?_
    refine pl_call (a := [.ref o, .int (nI k)]) (rest := []) rfl rfl rfl (dk_memberHolds (f := f) (n := n) (N := N) (q := q) (E := E) (o := o) (vd := vd) (mj := mj) (k := k) h_o (hV) (hmj) (by omega)) (fun v13 M14 q15 => ?_)
    obtain ⟨rfl, rfl⟩ := q15
    show pl _ _ _ (116, [(0, .ref o), (1, .int (nI k))], [.int (nI (memN f E k))], M) _
    exact ps_reti rfl (⟨congrArg (fun x => some (Value.int (nI x))) (show memN f E k = lnkN f E k from by
        unfold lnkN
        first | ((repeat first | rw [if_pos (by omega)] | rw [if_neg (by omega)]) <;> first | rfl | omega) | ((repeat' split) <;> first | rfl | (exfalso; omega) | omega)), rfl⟩)
  · show pl _ _ _ (117, [(0, .ref o), (1, .int (nI k))], [], M) _
    have m_8 := sw_nat (t := tg f E k) (Nat.lt_trans (tg_lt _ _ _) (by decide)) et_8
    simp at m_8
    refine ps_st (S' := (118, [(0, .ref o), (1, .int (nI k))], [.ref o], M)) rfl rfl rfl ?_
    refine ps_get (S' := (121, [(0, .ref o), (1, .int (nI k))], [.ref q], M)) rfl h_o rfl rfl ?_
    refine ps_st (S' := (122, [(0, .ref o), (1, .int (nI k))], [.int (nI k), .ref q], M)) rfl rfl rfl ?_
    refine pl_call (a := [.ref q, .int (nI k)]) (rest := []) rfl rfl rfl (dy_secondIndex (f := f) (n := n) (N := N) (q := q) (E := E) (j := k) (hV) (by omega)) (fun v16 M17 q18 => ?_)
    obtain ⟨rfl, rfl⟩ := q18
    show pl _ _ _ (125, [(0, .ref o), (1, .int (nI k))], [.int (nI (se f E k))], M) _
    refine ps_st (S' := (126, [(2, .int (nI (se f E k))), (0, .ref o), (1, .int (nI k))], [], M)) rfl rfl rfl ?_
    refine ps_st (S' := (127, [(2, .int (nI (se f E k))), (0, .ref o), (1, .int (nI k))], [.ref o], M)) rfl rfl rfl ?_
    refine ps_st (S' := (128, [(2, .int (nI (se f E k))), (0, .ref o), (1, .int (nI k))], [.int (nI (se f E k)), .ref o], M)) rfl rfl rfl ?_
    refine pl_call (a := [.ref o, .int (nI (se f E k))]) (rest := []) rfl rfl rfl (dk_isMember (f := f) (n := n) (N := N) (q := q) (E := E) (o := o) (vd := vd) (mj := mj) (k := (se f E k)) h_o (hV) (hmj) (se_lt _ _ _)) (fun v19 M20 q21 => ?_)
    obtain ⟨rfl, rfl⟩ := q21
    show pl _ _ _ (131, [(2, .int (nI (se f E k))), (0, .ref o), (1, .int (nI k))], [.int (nI (ismN f E (se f E k)))], M) _
    refine ps_if (S1 := (142, [(2, .int (nI (se f E k))), (0, .ref o), (1, .int (nI k))], [], M)) (S2 := (134, [(2, .int (nI (se f E k))), (0, .ref o), (1, .int (nI k))], [], M)) rfl rfl rfl (fun c_131 => ?_) (fun c_131 => ?_)
    · have c_131 : (nI (ismN f E (se f E k))) = 0 := of_decide_eq_true c_131
      have n_131 : ismN f E (se f E k) = 0 := (eq_nI (p := ismN f E (se f E k)) (n := 0) (Nat.lt_trans (le1_ism _ _ _) (by decide)) (by decide)).mp c_131
      refine ps_st (S' := (143, [(2, .int (nI (se f E k))), (0, .ref o), (1, .int (nI k))], [.ref o], M)) rfl rfl rfl ?_
      refine ps_get (S' := (146, [(2, .int (nI (se f E k))), (0, .ref o), (1, .int (nI k))], [.ref q], M)) rfl h_o rfl rfl ?_
      refine ps_st (S' := (147, [(2, .int (nI (se f E k))), (0, .ref o), (1, .int (nI k))], [.int (nI (se f E k)), .ref q], M)) rfl rfl rfl ?_
      refine pl_call (a := [.ref q, .int (nI (se f E k))]) (rest := []) rfl rfl rfl (dy_tagOf (f := f) (n := n) (N := N) (q := q) (E := E) (j := (se f E k)) (hV) (se_lt _ _ _)) (fun v22 M23 q24 => ?_)
      obtain ⟨rfl, rfl⟩ := q24
      show pl _ _ _ (150, [(2, .int (nI (se f E k))), (0, .ref o), (1, .int (nI k))], [.int (nI (tg f E (se f E k)))], M) _
      refine ps_if (S1 := (157, [(2, .int (nI (se f E k))), (0, .ref o), (1, .int (nI k))], [], M)) (S2 := (153, [(2, .int (nI (se f E k))), (0, .ref o), (1, .int (nI k))], [], M)) rfl rfl rfl (fun c_150 => ?_) (fun c_150 => ?_)
      · have c_150 : (nI (tg f E (se f E k))) = 0 := of_decide_eq_true c_150
        have n_150 : tg f E (se f E k) = 0 := (eq_nI (p := tg f E (se f E k)) (n := 0) (Nat.lt_trans (tg_lt _ _ _) (by decide)) (by decide)).mp c_150
        refine ps_st (S' := (158, [], [.int 0], M)) rfl rfl rfl ?_
        exact ps_ret rfl rfl (⟨congrArg (fun x => some (Value.int (nI x))) (show 0 = lnkN f E k from by
            unfold lnkN
            first | ((repeat first | rw [if_pos (by omega)] | rw [if_neg (by omega)]) <;> first | rfl | omega) | ((repeat' split) <;> first | rfl | (exfalso; omega) | omega)), rfl⟩)
      · have c_150 : ¬ ((nI (tg f E (se f E k))) = 0) := of_decide_eq_false c_150
        have n_150 : ¬ (tg f E (se f E k) = 0) := fun h9 => c_150 ((eq_nI (p := tg f E (se f E k)) (n := 0) (Nat.lt_trans (tg_lt _ _ _) (by decide)) (by decide)).mpr h9)
        refine ps_st (S' := (154, [(2, .int (nI (se f E k))), (0, .ref o), (1, .int (nI k))], [.int 1], M)) rfl rfl rfl ?_
        refine ps_st (S' := (158, [], [.int 1], M)) rfl rfl rfl ?_
        exact ps_ret rfl rfl (⟨congrArg (fun x => some (Value.int (nI x))) (show 1 = lnkN f E k from by
            unfold lnkN
            first | ((repeat first | rw [if_pos (by omega)] | rw [if_neg (by omega)]) <;> first | rfl | omega) | ((repeat' split) <;> first | rfl | (exfalso; omega) | omega)), rfl⟩)
    · have c_131 : ¬ ((nI (ismN f E (se f E k))) = 0) := of_decide_eq_false c_131
      have n_131 : ¬ (ismN f E (se f E k) = 0) := fun h9 => c_131 ((eq_nI (p := ismN f E (se f E k)) (n := 0) (Nat.lt_trans (le1_ism _ _ _) (by decide)) (by decide)).mpr h9)
      refine ps_st (S' := (135, [(2, .int (nI (se f E k))), (0, .ref o), (1, .int (nI k))], [.ref o], M)) rfl rfl rfl ?_
      refine ps_st (S' := (136, [(2, .int (nI (se f E k))), (0, .ref o), (1, .int (nI k))], [.int (nI (se f E k)), .ref o], M)) rfl rfl rfl ?_
      refine pl_call (a := [.ref o, .int (nI (se f E k))]) (rest := []) rfl rfl rfl (dk_memberHolds (f := f) (n := n) (N := N) (q := q) (E := E) (o := o) (vd := vd) (mj := mj) (k := (se f E k)) h_o (hV) (hmj) (se_lt _ _ _)) (fun v25 M26 q27 => ?_)
      obtain ⟨rfl, rfl⟩ := q27
      show pl _ _ _ (139, [(2, .int (nI (se f E k))), (0, .ref o), (1, .int (nI k))], [.int (nI (memN f E (se f E k)))], M) _
      refine ps_st (S' := (158, [], [.int (nI (memN f E (se f E k)))], M)) rfl rfl rfl ?_
      exact ps_reti rfl (⟨congrArg (fun x => some (Value.int (nI x))) (show memN f E (se f E k) = lnkN f E k from by
          unfold lnkN
          first | ((repeat first | rw [if_pos (by omega)] | rw [if_neg (by omega)]) <;> first | rfl | omega) | ((repeat' split) <;> first | rfl | (exfalso; omega) | omega)), rfl⟩)
  · show pl _ _ _ (159, [(0, .ref o), (1, .int (nI k))], [], M) _
    have m_8 := sw_nat (t := tg f E k) (Nat.lt_trans (tg_lt _ _ _) (by decide)) et_8
    simp at m_8
    refine ps_st (S' := (160, [(0, .ref o), (1, .int (nI k))], [.ref o], M)) rfl rfl rfl ?_
    refine ps_st (S' := (161, [(0, .ref o), (1, .int (nI k))], [.ref o, .ref o], M)) rfl rfl rfl ?_
    refine ps_get (S' := (164, [(0, .ref o), (1, .int (nI k))], [.ref q, .ref o], M)) rfl h_o rfl rfl ?_
    refine ps_st (S' := (165, [(0, .ref o), (1, .int (nI k))], [.int (nI k), .ref q, .ref o], M)) rfl rfl rfl ?_
    refine pl_call (a := [.ref q, .int (nI k)]) (rest := [.ref o]) rfl rfl rfl (dy_secondIndex (f := f) (n := n) (N := N) (q := q) (E := E) (j := k) (hV) (by omega)) (fun v28 M29 q30 => ?_)
    obtain ⟨rfl, rfl⟩ := q30
    show pl _ _ _ (168, [(0, .ref o), (1, .int (nI k))], [.int (nI (se f E k)), .ref o], M) _
    refine pl_call (a := [.ref o, .int (nI (se f E k))]) (rest := []) rfl rfl rfl (dk_pairHolds (f := f) (n := n) (N := N) (q := q) (E := E) (o := o) (vd := vd) (mj := mj) (k := (se f E k)) h_o (hV) (hmj) (se_lt _ _ _)) (fun v31 M32 q33 => ?_)
    obtain ⟨rfl, rfl⟩ := q33
    show pl _ _ _ (171, [(0, .ref o), (1, .int (nI k))], [.int (nI (pairN f E (se f E k)))], M) _
    exact ps_reti rfl (⟨congrArg (fun x => some (Value.int (nI x))) (show pairN f E (se f E k) = lnkN f E k from by
        unfold lnkN
        first | ((repeat first | rw [if_pos (by omega)] | rw [if_neg (by omega)]) <;> first | rfl | omega) | ((repeat' split) <;> first | rfl | (exfalso; omega) | omega)), rfl⟩)
  · show pl _ _ _ (172, [(0, .ref o), (1, .int (nI k))], [], M) _
    have m_8 := sw_nat (t := tg f E k) (Nat.lt_trans (tg_lt _ _ _) (by decide)) et_8
    simp at m_8
    refine ps_st (S' := (173, [(0, .ref o), (1, .int (nI k))], [.int 1], M)) rfl rfl rfl ?_
    exact ps_ret rfl rfl (⟨congrArg (fun x => some (Value.int (nI x))) (show 1 = lnkN f E k from by
        unfold lnkN
        first | ((repeat first | rw [if_pos (by omega)] | rw [if_neg (by omega)]) <;> first | rfl | omega) | ((repeat' split) <;> first | rfl | (exfalso; omega) | omega)), rfl⟩)
set_option maxHeartbeats 1000000 in
theorem dk_isNameWithType {g : xe_G} {M : mi_H} {f : Nat → Int32} {n N q : Nat} {E : List (Nat × Nat)} {o vd mj : Nat} {k : Nat} (h_o : M.1 o = some (ob 8 [.ref q, .int (nI mj), .ref vd])) (hV : PV g f n N E q M) (hmj : mj < 65536) (hk : k < 65536) : pt (mT g) 150 [.ref o, .int (nI k)] M (fun v M' => (v = some (.int (nI (nwtN f n E k))) ∧ M = M')) := by
  refine pt_in (b := mb_150 g) rfl (fun kf => ?_)
  show pl (mT g) kf (mb_150 g).2 (0, [(0, .ref o), (1, .int (nI k))], [], M) _
  refine ps_st (S' := (1, [(0, .ref o), (1, .int (nI k))], [.ref o], M)) rfl rfl rfl ?_
  refine ps_get (S' := (4, [(0, .ref o), (1, .int (nI k))], [.ref q], M)) rfl h_o rfl rfl ?_
  refine ps_st (S' := (5, [(0, .ref o), (1, .int (nI k))], [.int (nI k), .ref q], M)) rfl rfl rfl ?_
  refine pl_call (a := [.ref q, .int (nI k)]) (rest := []) rfl rfl rfl (dy_secondIndex (f := f) (n := n) (N := N) (q := q) (E := E) (j := k) (hV) (by omega)) (fun v1 M2 q3 => ?_)
  obtain ⟨rfl, rfl⟩ := q3
  show pl _ _ _ (8, [(0, .ref o), (1, .int (nI k))], [.int (nI (se f E k))], M) _
  refine ps_st (S' := (9, [(2, .int (nI (se f E k))), (0, .ref o), (1, .int (nI k))], [], M)) rfl rfl rfl ?_
  refine ps_st (S' := (10, [(2, .int (nI (se f E k))), (0, .ref o), (1, .int (nI k))], [.ref o], M)) rfl rfl rfl ?_
  refine ps_get (S' := (13, [(2, .int (nI (se f E k))), (0, .ref o), (1, .int (nI k))], [.ref q], M)) rfl h_o rfl rfl ?_
  refine ps_st (S' := (14, [(2, .int (nI (se f E k))), (0, .ref o), (1, .int (nI k))], [.ref o, .ref q], M)) rfl rfl rfl ?_
  refine ps_get (S' := (17, [(2, .int (nI (se f E k))), (0, .ref o), (1, .int (nI k))], [.ref q, .ref q], M)) rfl h_o rfl rfl ?_
  refine ps_st (S' := (18, [(2, .int (nI (se f E k))), (0, .ref o), (1, .int (nI k))], [.int (nI k), .ref q, .ref q], M)) rfl rfl rfl ?_
  refine pl_call (a := [.ref q, .int (nI k)]) (rest := [.ref q]) rfl rfl rfl (dy_firstIndex (f := f) (n := n) (N := N) (q := q) (E := E) (j := k) (hV) (by omega)) (fun v4 M5 q6 => ?_)
  obtain ⟨rfl, rfl⟩ := q6
  show pl _ _ _ (21, [(2, .int (nI (se f E k))), (0, .ref o), (1, .int (nI k))], [.int (nI (fi f E k)), .ref q], M) _
  refine pl_call (a := [.ref q, .int (nI (fi f E k))]) (rest := []) rfl rfl rfl (dy_isUnqualifiedName (f := f) (n := n) (N := N) (q := q) (E := E) (j := (fi f E k)) (hV) (fi_lt _ _ _)) (fun v7 M8 q9 => ?_)
  obtain ⟨rfl, rfl⟩ := q9
  show pl _ _ _ (24, [(2, .int (nI (se f E k))), (0, .ref o), (1, .int (nI k))], [.int (nI (unqN (tX f n E (fi f E k))))], M) _
  refine ps_if (S1 := (53, [], [], M)) (S2 := (27, [(2, .int (nI (se f E k))), (0, .ref o), (1, .int (nI k))], [], M)) rfl rfl rfl (fun c_24 => ?_) (fun c_24 => ?_)
  · have c_24 : (nI (unqN (tX f n E (fi f E k)))) = 0 := of_decide_eq_true c_24
    have n_24 : unqN (tX f n E (fi f E k)) = 0 := (eq_nI (p := unqN (tX f n E (fi f E k))) (n := 0) (Nat.lt_trans (le1_unq _) (by decide)) (by decide)).mp c_24
    refine ps_st (S' := (54, [], [.int 0], M)) rfl rfl rfl ?_
    exact ps_ret rfl rfl (⟨congrArg (fun x => some (Value.int (nI x))) (show 0 = nwtN f n E k from by
        unfold nwtN
        first | ((repeat first | rw [if_pos (by omega)] | rw [if_neg (by omega)]) <;> first | rfl | omega) | ((repeat' split) <;> first | rfl | (exfalso; omega) | omega)), rfl⟩)
  · have c_24 : ¬ ((nI (unqN (tX f n E (fi f E k)))) = 0) := of_decide_eq_false c_24
    have n_24 : ¬ (unqN (tX f n E (fi f E k)) = 0) := fun h9 => c_24 ((eq_nI (p := unqN (tX f n E (fi f E k))) (n := 0) (Nat.lt_trans (le1_unq _) (by decide)) (by decide)).mpr h9)
    refine ps_st (S' := (28, [(2, .int (nI (se f E k))), (0, .ref o), (1, .int (nI k))], [.ref o], M)) rfl rfl rfl ?_
    refine ps_get (S' := (31, [(2, .int (nI (se f E k))), (0, .ref o), (1, .int (nI k))], [.ref q], M)) rfl h_o rfl rfl ?_
    refine ps_st (S' := (32, [(2, .int (nI (se f E k))), (0, .ref o), (1, .int (nI k))], [.int (nI (se f E k)), .ref q], M)) rfl rfl rfl ?_
    refine pl_call (a := [.ref q, .int (nI (se f E k))]) (rest := []) rfl rfl rfl (dy_isFieldDescriptor (f := f) (n := n) (N := N) (q := q) (E := E) (j := (se f E k)) (hV) (se_lt _ _ _)) (fun v10 M11 q12 => ?_)
    obtain ⟨rfl, rfl⟩ := q12
    show pl _ _ _ (35, [(2, .int (nI (se f E k))), (0, .ref o), (1, .int (nI k))], [.int (nI (fldN (tX f n E (se f E k))))], M) _
    refine ps_if (S1 := (49, [], [], M)) (S2 := (38, [(2, .int (nI (se f E k))), (0, .ref o), (1, .int (nI k))], [], M)) rfl rfl rfl (fun c_35 => ?_) (fun c_35 => ?_)
    · have c_35 : ¬ (nI (fldN (tX f n E (se f E k)))) = 0 := of_decide_eq_true c_35
      have n_35 : ¬ (fldN (tX f n E (se f E k)) = 0) := fun h9 => c_35 ((eq_nI (p := fldN (tX f n E (se f E k))) (n := 0) (Nat.lt_trans (le1_fld _) (by decide)) (by decide)).mpr h9)
      refine ps_st (S' := (50, [], [.int 1], M)) rfl rfl rfl ?_
      refine ps_st (S' := (54, [], [.int 1], M)) rfl rfl rfl ?_
      exact ps_ret rfl rfl (⟨congrArg (fun x => some (Value.int (nI x))) (show 1 = nwtN f n E k from by
          unfold nwtN
          first | ((repeat first | rw [if_pos (by omega)] | rw [if_neg (by omega)]) <;> first | rfl | omega) | ((repeat' split) <;> first | rfl | (exfalso; omega) | omega)), rfl⟩)
    · have c_35 : ¬ (¬ (nI (fldN (tX f n E (se f E k)))) = 0) := of_decide_eq_false c_35
      have n_35 : fldN (tX f n E (se f E k)) = 0 := (eq_nI (p := fldN (tX f n E (se f E k))) (n := 0) (Nat.lt_trans (le1_fld _) (by decide)) (by decide)).mp (Decidable.not_not.mp c_35)
      refine ps_st (S' := (39, [(2, .int (nI (se f E k))), (0, .ref o), (1, .int (nI k))], [.ref o], M)) rfl rfl rfl ?_
      refine ps_get (S' := (42, [(2, .int (nI (se f E k))), (0, .ref o), (1, .int (nI k))], [.ref q], M)) rfl h_o rfl rfl ?_
      refine ps_st (S' := (43, [(2, .int (nI (se f E k))), (0, .ref o), (1, .int (nI k))], [.int (nI (se f E k)), .ref q], M)) rfl rfl rfl ?_
      refine pl_call (a := [.ref q, .int (nI (se f E k))]) (rest := []) rfl rfl rfl (dy_isMethodDescriptor (f := f) (n := n) (N := N) (q := q) (E := E) (j := (se f E k)) (hV) (se_lt _ _ _)) (fun v13 M14 q15 => ?_)
      obtain ⟨rfl, rfl⟩ := q15
      show pl _ _ _ (46, [(2, .int (nI (se f E k))), (0, .ref o), (1, .int (nI k))], [.int (nI (mthN (tX f n E (se f E k))))], M) _
      refine ps_if (S1 := (53, [], [], M)) (S2 := (49, [], [], M)) rfl rfl rfl (fun c_46 => ?_) (fun c_46 => ?_)
      · have c_46 : (nI (mthN (tX f n E (se f E k)))) = 0 := of_decide_eq_true c_46
        have n_46 : mthN (tX f n E (se f E k)) = 0 := (eq_nI (p := mthN (tX f n E (se f E k))) (n := 0) (Nat.lt_trans (le1_mth _) (by decide)) (by decide)).mp c_46
        refine ps_st (S' := (54, [], [.int 0], M)) rfl rfl rfl ?_
        exact ps_ret rfl rfl (⟨congrArg (fun x => some (Value.int (nI x))) (show 0 = nwtN f n E k from by
            unfold nwtN
            first | ((repeat first | rw [if_pos (by omega)] | rw [if_neg (by omega)]) <;> first | rfl | omega) | ((repeat' split) <;> first | rfl | (exfalso; omega) | omega)), rfl⟩)
      · have c_46 : ¬ ((nI (mthN (tX f n E (se f E k)))) = 0) := of_decide_eq_false c_46
        have n_46 : ¬ (mthN (tX f n E (se f E k)) = 0) := fun h9 => c_46 ((eq_nI (p := mthN (tX f n E (se f E k))) (n := 0) (Nat.lt_trans (le1_mth _) (by decide)) (by decide)).mpr h9)
        refine ps_st (S' := (50, [], [.int 1], M)) rfl rfl rfl ?_
        refine ps_st (S' := (54, [], [.int 1], M)) rfl rfl rfl ?_
        exact ps_ret rfl rfl (⟨congrArg (fun x => some (Value.int (nI x))) (show 1 = nwtN f n E k from by
            unfold nwtN
            first | ((repeat first | rw [if_pos (by omega)] | rw [if_neg (by omega)]) <;> first | rfl | omega) | ((repeat' split) <;> first | rfl | (exfalso; omega) | omega)), rfl⟩)
set_option maxHeartbeats 1000000 in
theorem dk_isMethodRef {g : xe_G} {M : mi_H} {f : Nat → Int32} {n N q : Nat} {E : List (Nat × Nat)} {o vd mj : Nat} {k : Nat} (h_o : M.1 o = some (ob 8 [.ref q, .int (nI mj), .ref vd])) (hV : PV g f n N E q M) (hmj : mj < 65536) (hk : k < 65536) : pt (mT g) 149 [.ref o, .int (nI k)] M (fun v M' => (v = some (.int (nI (mrfN f n E k))) ∧ M = M')) := by
  refine pt_in (b := mb_149 g) rfl (fun kf => ?_)
  show pl (mT g) kf (mb_149 g).2 (0, [(0, .ref o), (1, .int (nI k))], [], M) _
  refine ps_st (S' := (1, [(0, .ref o), (1, .int (nI k))], [.ref o], M)) rfl rfl rfl ?_
  refine ps_get (S' := (4, [(0, .ref o), (1, .int (nI k))], [.ref q], M)) rfl h_o rfl rfl ?_
  refine ps_st (S' := (5, [(0, .ref o), (1, .int (nI k))], [.int (nI k), .ref q], M)) rfl rfl rfl ?_
  refine pl_call (a := [.ref q, .int (nI k)]) (rest := []) rfl rfl rfl (dy_descriptorOf (f := f) (n := n) (N := N) (q := q) (E := E) (j := k) (hV) (by omega)) (fun v1 M2 q3 => ?_)
  obtain ⟨rfl, rfl⟩ := q3
  show pl _ _ _ (8, [(0, .ref o), (1, .int (nI k))], [.int (nI (se f E (se f E k)))], M) _
  refine ps_st (S' := (9, [(2, .int (nI (se f E (se f E k)))), (0, .ref o), (1, .int (nI k))], [], M)) rfl rfl rfl ?_
  refine ps_st (S' := (10, [(2, .int (nI (se f E (se f E k)))), (0, .ref o), (1, .int (nI k))], [.ref o], M)) rfl rfl rfl ?_
  refine ps_get (S' := (13, [(2, .int (nI (se f E (se f E k)))), (0, .ref o), (1, .int (nI k))], [.ref q], M)) rfl h_o rfl rfl ?_
  refine ps_st (S' := (14, [(2, .int (nI (se f E (se f E k)))), (0, .ref o), (1, .int (nI k))], [.int (nI (se f E (se f E k))), .ref q], M)) rfl rfl rfl ?_
  refine pl_call (a := [.ref q, .int (nI (se f E (se f E k)))]) (rest := []) rfl rfl rfl (dy_isMethodDescriptor (f := f) (n := n) (N := N) (q := q) (E := E) (j := (se f E (se f E k))) (hV) (se_lt _ _ _)) (fun v4 M5 q6 => ?_)
  obtain ⟨rfl, rfl⟩ := q6
  show pl _ _ _ (17, [(2, .int (nI (se f E (se f E k)))), (0, .ref o), (1, .int (nI k))], [.int (nI (mthN (tX f n E (se f E (se f E k)))))], M) _
  refine ps_if (S1 := (22, [(2, .int (nI (se f E (se f E k)))), (0, .ref o), (1, .int (nI k))], [], M)) (S2 := (20, [(2, .int (nI (se f E (se f E k)))), (0, .ref o), (1, .int (nI k))], [], M)) rfl rfl rfl (fun c_17 => ?_) (fun c_17 => ?_)
  · have c_17 : ¬ (nI (mthN (tX f n E (se f E (se f E k))))) = 0 := of_decide_eq_true c_17
    have n_17 : ¬ (mthN (tX f n E (se f E (se f E k))) = 0) := fun h9 => c_17 ((eq_nI (p := mthN (tX f n E (se f E (se f E k)))) (n := 0) (Nat.lt_trans (le1_mth _) (by decide)) (by decide)).mpr h9)
    refine ps_st (S' := (23, [(2, .int (nI (se f E (se f E k)))), (0, .ref o), (1, .int (nI k))], [.ref o], M)) rfl rfl rfl ?_
    refine ps_get (S' := (26, [(2, .int (nI (se f E (se f E k)))), (0, .ref o), (1, .int (nI k))], [.ref q], M)) rfl h_o rfl rfl ?_
    refine ps_st (S' := (27, [(2, .int (nI (se f E (se f E k)))), (0, .ref o), (1, .int (nI k))], [.ref o, .ref q], M)) rfl rfl rfl ?_
    refine ps_get (S' := (30, [(2, .int (nI (se f E (se f E k)))), (0, .ref o), (1, .int (nI k))], [.ref q, .ref q], M)) rfl h_o rfl rfl ?_
    refine ps_st (S' := (31, [(2, .int (nI (se f E (se f E k)))), (0, .ref o), (1, .int (nI k))], [.int (nI k), .ref q, .ref q], M)) rfl rfl rfl ?_
    refine pl_call (a := [.ref q, .int (nI k)]) (rest := [.ref q]) rfl rfl rfl (dy_nameOf (f := f) (n := n) (N := N) (q := q) (E := E) (j := k) (hV) (by omega)) (fun v7 M8 q9 => ?_)
    obtain ⟨rfl, rfl⟩ := q9
    show pl _ _ _ (34, [(2, .int (nI (se f E (se f E k)))), (0, .ref o), (1, .int (nI k))], [.int (nI (fi f E (se f E k))), .ref q], M) _
    refine pl_call (a := [.ref q, .int (nI (fi f E (se f E k)))]) (rest := []) rfl rfl rfl (dy_hasAngle (f := f) (n := n) (N := N) (q := q) (E := E) (j := (fi f E (se f E k))) (hV) (fi_lt _ _ _)) (fun v10 M11 q12 => ?_)
    obtain ⟨rfl, rfl⟩ := q12
    show pl _ _ _ (37, [(2, .int (nI (se f E (se f E k)))), (0, .ref o), (1, .int (nI k))], [.int (nI (angN (tX f n E (fi f E (se f E k)))))], M) _
    refine ps_if (S1 := (42, [(2, .int (nI (se f E (se f E k)))), (0, .ref o), (1, .int (nI k))], [], M)) (S2 := (40, [(2, .int (nI (se f E (se f E k)))), (0, .ref o), (1, .int (nI k))], [], M)) rfl rfl rfl (fun c_37 => ?_) (fun c_37 => ?_)
    · have c_37 : ¬ (nI (angN (tX f n E (fi f E (se f E k))))) = 0 := of_decide_eq_true c_37
      have n_37 : ¬ (angN (tX f n E (fi f E (se f E k))) = 0) := fun h9 => c_37 ((eq_nI (p := angN (tX f n E (fi f E (se f E k)))) (n := 0) (Nat.lt_trans (le1_ang _) (by decide)) (by decide)).mpr h9)
      refine ps_st (S' := (43, [(2, .int (nI (se f E (se f E k)))), (0, .ref o), (1, .int (nI k))], [.ref o], M)) rfl rfl rfl ?_
      refine ps_get (S' := (46, [(2, .int (nI (se f E (se f E k)))), (0, .ref o), (1, .int (nI k))], [.ref q], M)) rfl h_o rfl rfl ?_
      refine ps_st (S' := (47, [(2, .int (nI (se f E (se f E k)))), (0, .ref o), (1, .int (nI k))], [.int (nI k), .ref q], M)) rfl rfl rfl ?_
      refine pl_call (a := [.ref q, .int (nI k)]) (rest := []) rfl rfl rfl (dy_tagOf (f := f) (n := n) (N := N) (q := q) (E := E) (j := k) (hV) (by omega)) (fun v13 M14 q15 => ?_)
      obtain ⟨rfl, rfl⟩ := q15
      show pl _ _ _ (50, [(2, .int (nI (se f E (se f E k)))), (0, .ref o), (1, .int (nI k))], [.int (nI (tg f E k))], M) _
      refine ps_st (S' := (52, [(2, .int (nI (se f E (se f E k)))), (0, .ref o), (1, .int (nI k))], [.int 10, .int (nI (tg f E k))], M)) rfl rfl rfl ?_
      refine ps_if2 (S1 := (81, [], [], M)) (S2 := (55, [(2, .int (nI (se f E (se f E k)))), (0, .ref o), (1, .int (nI k))], [], M)) rfl rfl rfl (fun c_52 => ?_) (fun c_52 => ?_)
      · have c_52 : ¬ (nI (tg f E k)) = 10 := of_decide_eq_true c_52
        have n_52 : ¬ (tg f E k = 10) := fun h9 => c_52 ((eq_nI (p := tg f E k) (n := 10) (Nat.lt_trans (tg_lt _ _ _) (by decide)) (by decide)).mpr h9)
        refine ps_st (S' := (82, [], [.int 0], M)) rfl rfl rfl ?_
        exact ps_ret rfl rfl (⟨congrArg (fun x => some (Value.int (nI x))) (show 0 = mrfN f n E k from by
            unfold mrfN
            first | ((repeat first | rw [if_pos (by omega)] | rw [if_neg (by omega)]) <;> first | rfl | omega) | ((repeat' split) <;> first | rfl | (exfalso; omega) | omega)), rfl⟩)
      · have c_52 : ¬ (¬ (nI (tg f E k)) = 10) := of_decide_eq_false c_52
        have n_52 : tg f E k = 10 := (eq_nI (p := tg f E k) (n := 10) (Nat.lt_trans (tg_lt _ _ _) (by decide)) (by decide)).mp (Decidable.not_not.mp c_52)
        refine ps_st (S' := (56, [(2, .int (nI (se f E (se f E k)))), (0, .ref o), (1, .int (nI k))], [.ref o], M)) rfl rfl rfl ?_
        refine ps_get (S' := (59, [(2, .int (nI (se f E (se f E k)))), (0, .ref o), (1, .int (nI k))], [.ref q], M)) rfl h_o rfl rfl ?_
        refine ps_st (S' := (60, [(2, .int (nI (se f E (se f E k)))), (0, .ref o), (1, .int (nI k))], [.int (nI k), .ref q], M)) rfl rfl rfl ?_
        refine pl_call (a := [.ref q, .int (nI k)]) (rest := []) rfl rfl rfl (dy_namesInit (f := f) (n := n) (N := N) (q := q) (E := E) (j := k) (hV) (by omega)) (fun v16 M17 q18 => ?_)
        obtain ⟨rfl, rfl⟩ := q18
        show pl _ _ _ (63, [(2, .int (nI (se f E (se f E k)))), (0, .ref o), (1, .int (nI k))], [.int (nI (eqN (tX f n E (fi f E (se f E k))) (ltx 14)))], M) _
        refine ps_if (S1 := (81, [], [], M)) (S2 := (66, [(2, .int (nI (se f E (se f E k)))), (0, .ref o), (1, .int (nI k))], [], M)) rfl rfl rfl (fun c_63 => ?_) (fun c_63 => ?_)
        · have c_63 : (nI (eqN (tX f n E (fi f E (se f E k))) (ltx 14))) = 0 := of_decide_eq_true c_63
          have n_63 : eqN (tX f n E (fi f E (se f E k))) (ltx 14) = 0 := (eq_nI (p := eqN (tX f n E (fi f E (se f E k))) (ltx 14)) (n := 0) (Nat.lt_trans (le1_eq _ _) (by decide)) (by decide)).mp c_63
          refine ps_st (S' := (82, [], [.int 0], M)) rfl rfl rfl ?_
          exact ps_ret rfl rfl (⟨congrArg (fun x => some (Value.int (nI x))) (show 0 = mrfN f n E k from by
              unfold mrfN
              first | ((repeat first | rw [if_pos (by omega)] | rw [if_neg (by omega)]) <;> first | rfl | omega) | ((repeat' split) <;> first | rfl | (exfalso; omega) | omega)), rfl⟩)
        · have c_63 : ¬ ((nI (eqN (tX f n E (fi f E (se f E k))) (ltx 14))) = 0) := of_decide_eq_false c_63
          have n_63 : ¬ (eqN (tX f n E (fi f E (se f E k))) (ltx 14) = 0) := fun h9 => c_63 ((eq_nI (p := eqN (tX f n E (fi f E (se f E k))) (ltx 14)) (n := 0) (Nat.lt_trans (le1_eq _ _) (by decide)) (by decide)).mpr h9)
          refine ps_st (S' := (67, [(2, .int (nI (se f E (se f E k)))), (0, .ref o), (1, .int (nI k))], [.ref o], M)) rfl rfl rfl ?_
          refine ps_get (S' := (70, [(2, .int (nI (se f E (se f E k)))), (0, .ref o), (1, .int (nI k))], [.ref q], M)) rfl h_o rfl rfl ?_
          refine ps_st (S' := (71, [(2, .int (nI (se f E (se f E k)))), (0, .ref o), (1, .int (nI k))], [.int (nI (se f E (se f E k))), .ref q], M)) rfl rfl rfl ?_
          refine pl_call (a := [.ref q, .int (nI (se f E (se f E k)))]) (rest := []) rfl rfl rfl (dy_hasNoResult (f := f) (n := n) (N := N) (q := q) (E := E) (j := (se f E (se f E k))) (hV) (se_lt _ _ _)) (fun v19 M20 q21 => ?_)
          obtain ⟨rfl, rfl⟩ := q21
          show pl _ _ _ (74, [(2, .int (nI (se f E (se f E k)))), (0, .ref o), (1, .int (nI k))], [.int (nI (nresN (tX f n E (se f E (se f E k)))))], M) _
          refine ps_if (S1 := (81, [], [], M)) (S2 := (77, [(2, .int (nI (se f E (se f E k)))), (0, .ref o), (1, .int (nI k))], [], M)) rfl rfl rfl (fun c_74 => ?_) (fun c_74 => ?_)
          · have c_74 : (nI (nresN (tX f n E (se f E (se f E k))))) = 0 := of_decide_eq_true c_74
            have n_74 : nresN (tX f n E (se f E (se f E k))) = 0 := (eq_nI (p := nresN (tX f n E (se f E (se f E k)))) (n := 0) (Nat.lt_trans (le1_nres _) (by decide)) (by decide)).mp c_74
            refine ps_st (S' := (82, [], [.int 0], M)) rfl rfl rfl ?_
            exact ps_ret rfl rfl (⟨congrArg (fun x => some (Value.int (nI x))) (show 0 = mrfN f n E k from by
                unfold mrfN
                first | ((repeat first | rw [if_pos (by omega)] | rw [if_neg (by omega)]) <;> first | rfl | omega) | ((repeat' split) <;> first | rfl | (exfalso; omega) | omega)), rfl⟩)
          · have c_74 : ¬ ((nI (nresN (tX f n E (se f E (se f E k))))) = 0) := of_decide_eq_false c_74
            have n_74 : ¬ (nresN (tX f n E (se f E (se f E k))) = 0) := fun h9 => c_74 ((eq_nI (p := nresN (tX f n E (se f E (se f E k)))) (n := 0) (Nat.lt_trans (le1_nres _) (by decide)) (by decide)).mpr h9)
            refine ps_st (S' := (78, [(2, .int (nI (se f E (se f E k)))), (0, .ref o), (1, .int (nI k))], [.int 1], M)) rfl rfl rfl ?_
            refine ps_st (S' := (82, [], [.int 1], M)) rfl rfl rfl ?_
            exact ps_ret rfl rfl (⟨congrArg (fun x => some (Value.int (nI x))) (show 1 = mrfN f n E k from by
                unfold mrfN
                first | ((repeat first | rw [if_pos (by omega)] | rw [if_neg (by omega)]) <;> first | rfl | omega) | ((repeat' split) <;> first | rfl | (exfalso; omega) | omega)), rfl⟩)
    · have c_37 : ¬ (¬ (nI (angN (tX f n E (fi f E (se f E k))))) = 0) := of_decide_eq_false c_37
      have n_37 : angN (tX f n E (fi f E (se f E k))) = 0 := (eq_nI (p := angN (tX f n E (fi f E (se f E k)))) (n := 0) (Nat.lt_trans (le1_ang _) (by decide)) (by decide)).mp (Decidable.not_not.mp c_37)
      refine ps_st (S' := (41, [(2, .int (nI (se f E (se f E k)))), (0, .ref o), (1, .int (nI k))], [.int 1], M)) rfl rfl rfl ?_
      exact ps_ret rfl rfl (⟨congrArg (fun x => some (Value.int (nI x))) (show 1 = mrfN f n E k from by
          unfold mrfN
          first | ((repeat first | rw [if_pos (by omega)] | rw [if_neg (by omega)]) <;> first | rfl | omega) | ((repeat' split) <;> first | rfl | (exfalso; omega) | omega)), rfl⟩)
  · have c_17 : ¬ (¬ (nI (mthN (tX f n E (se f E (se f E k))))) = 0) := of_decide_eq_false c_17
    have n_17 : mthN (tX f n E (se f E (se f E k))) = 0 := (eq_nI (p := mthN (tX f n E (se f E (se f E k)))) (n := 0) (Nat.lt_trans (le1_mth _) (by decide)) (by decide)).mp (Decidable.not_not.mp c_17)
    refine ps_st (S' := (21, [(2, .int (nI (se f E (se f E k)))), (0, .ref o), (1, .int (nI k))], [.int 0], M)) rfl rfl rfl ?_
    exact ps_ret rfl rfl (⟨congrArg (fun x => some (Value.int (nI x))) (show 0 = mrfN f n E k from by
        unfold mrfN
        first | ((repeat first | rw [if_pos (by omega)] | rw [if_neg (by omega)]) <;> first | rfl | omega) | ((repeat' split) <;> first | rfl | (exfalso; omega) | omega)), rfl⟩)
set_option maxHeartbeats 1000000 in
theorem dk_isHandle {g : xe_G} {M : mi_H} {f : Nat → Int32} {n N q : Nat} {E : List (Nat × Nat)} {o vd mj : Nat} {d e : Nat} (h_o : M.1 o = some (ob 8 [.ref q, .int (nI mj), .ref vd])) (hV : PV g f n N E q M) (hmj : mj < 65536) (hd : d < 65536) (he : e < 65536) : pt (mT g) 147 [.ref o, .int (nI d), .int (nI e)] M (fun v M' => (v = some (.int (nI (hdlN f n E mj d e))) ∧ M = M')) := by
  refine pt_in (b := mb_147 g) rfl (fun kf => ?_)
  show pl (mT g) kf (mb_147 g).2 (0, [(0, .ref o), (1, .int (nI d)), (2, .int (nI e))], [], M) _
  refine ps_st (S' := (1, [(0, .ref o), (1, .int (nI d)), (2, .int (nI e))], [.ref o], M)) rfl rfl rfl ?_
  refine ps_get (S' := (4, [(0, .ref o), (1, .int (nI d)), (2, .int (nI e))], [.ref q], M)) rfl h_o rfl rfl ?_
  refine ps_st (S' := (5, [(0, .ref o), (1, .int (nI d)), (2, .int (nI e))], [.int (nI e), .ref q], M)) rfl rfl rfl ?_
  refine pl_call (a := [.ref q, .int (nI e)]) (rest := []) rfl rfl rfl (dy_tagOf (f := f) (n := n) (N := N) (q := q) (E := E) (j := e) (hV) (by omega)) (fun v1 M2 q3 => ?_)
  obtain ⟨rfl, rfl⟩ := q3
  show pl _ _ _ (8, [(0, .ref o), (1, .int (nI d)), (2, .int (nI e))], [.int (nI (tg f E e))], M) _
  refine ps_st (S' := (9, [(3, .int (nI (tg f E e))), (0, .ref o), (1, .int (nI d)), (2, .int (nI e))], [], M)) rfl rfl rfl ?_
  refine ps_st (S' := (10, [(3, .int (nI (tg f E e))), (0, .ref o), (1, .int (nI d)), (2, .int (nI e))], [.int (nI d)], M)) rfl rfl rfl ?_
  refine pl_sw rfl (fun t_10 et_10 => ?_)
  have ht_10 : t_10 ∈ [60, 72, 95, 133, 156, 179] := mi_sw_sub et_10 (by decide)
  simp only [List.mem_cons, List.not_mem_nil, or_false] at ht_10
  rcases ht_10 with rfl | rfl | rfl | rfl | rfl | rfl
  · show pl _ _ _ (60, [(3, .int (nI (tg f E e))), (0, .ref o), (1, .int (nI d)), (2, .int (nI e))], [], M) _
    have m_10 := sw_nat (t := d) (by omega) et_10
    simp at m_10
    refine ps_st (S' := (61, [(3, .int (nI (tg f E e))), (0, .ref o), (1, .int (nI d)), (2, .int (nI e))], [.int (nI (tg f E e))], M)) rfl rfl rfl ?_
    refine ps_st (S' := (63, [(3, .int (nI (tg f E e))), (0, .ref o), (1, .int (nI d)), (2, .int (nI e))], [.int 9, .int (nI (tg f E e))], M)) rfl rfl rfl ?_
    refine ps_if2 (S1 := (70, [(3, .int (nI (tg f E e))), (0, .ref o), (1, .int (nI d)), (2, .int (nI e))], [], M)) (S2 := (66, [(3, .int (nI (tg f E e))), (0, .ref o), (1, .int (nI d)), (2, .int (nI e))], [], M)) rfl rfl rfl (fun c_63 => ?_) (fun c_63 => ?_)
    · have c_63 : ¬ (nI (tg f E e)) = 9 := of_decide_eq_true c_63
      have n_63 : ¬ (tg f E e = 9) := fun h9 => c_63 ((eq_nI (p := tg f E e) (n := 9) (Nat.lt_trans (tg_lt _ _ _) (by decide)) (by decide)).mpr h9)
      refine ps_st (S' := (71, [], [.int 0], M)) rfl rfl rfl ?_
      exact ps_ret rfl rfl (⟨congrArg (fun x => some (Value.int (nI x))) (show 0 = hdlN f n E mj d e from by
          unfold hdlN
          first | ((repeat first | rw [if_pos (by omega)] | rw [if_neg (by omega)]) <;> first | rfl | omega) | ((repeat' split) <;> first | rfl | (exfalso; omega) | omega)), rfl⟩)
    · have c_63 : ¬ (¬ (nI (tg f E e)) = 9) := of_decide_eq_false c_63
      have n_63 : tg f E e = 9 := (eq_nI (p := tg f E e) (n := 9) (Nat.lt_trans (tg_lt _ _ _) (by decide)) (by decide)).mp (Decidable.not_not.mp c_63)
      refine ps_st (S' := (67, [(3, .int (nI (tg f E e))), (0, .ref o), (1, .int (nI d)), (2, .int (nI e))], [.int 1], M)) rfl rfl rfl ?_
      refine ps_st (S' := (71, [], [.int 1], M)) rfl rfl rfl ?_
      exact ps_ret rfl rfl (⟨congrArg (fun x => some (Value.int (nI x))) (show 1 = hdlN f n E mj d e from by
          unfold hdlN
          first | ((repeat first | rw [if_pos (by omega)] | rw [if_neg (by omega)]) <;> first | rfl | omega) | ((repeat' split) <;> first | rfl | (exfalso; omega) | omega)), rfl⟩)
  · show pl _ _ _ (72, [(3, .int (nI (tg f E e))), (0, .ref o), (1, .int (nI d)), (2, .int (nI e))], [], M) _
    have m_10 := sw_nat (t := d) (by omega) et_10
    simp at m_10
    refine ps_st (S' := (73, [(3, .int (nI (tg f E e))), (0, .ref o), (1, .int (nI d)), (2, .int (nI e))], [.int (nI (tg f E e))], M)) rfl rfl rfl ?_
    refine ps_st (S' := (75, [(3, .int (nI (tg f E e))), (0, .ref o), (1, .int (nI d)), (2, .int (nI e))], [.int 10, .int (nI (tg f E e))], M)) rfl rfl rfl ?_
    refine ps_if2 (S1 := (93, [], [], M)) (S2 := (78, [(3, .int (nI (tg f E e))), (0, .ref o), (1, .int (nI d)), (2, .int (nI e))], [], M)) rfl rfl rfl (fun c_75 => ?_) (fun c_75 => ?_)
    · have c_75 : ¬ (nI (tg f E e)) = 10 := of_decide_eq_true c_75
      have n_75 : ¬ (tg f E e = 10) := fun h9 => c_75 ((eq_nI (p := tg f E e) (n := 10) (Nat.lt_trans (tg_lt _ _ _) (by decide)) (by decide)).mpr h9)
      refine ps_st (S' := (94, [], [.int 0], M)) rfl rfl rfl ?_
      exact ps_ret rfl rfl (⟨congrArg (fun x => some (Value.int (nI x))) (show 0 = hdlN f n E mj d e from by
          unfold hdlN
          first | ((repeat first | rw [if_pos (by omega)] | rw [if_neg (by omega)]) <;> first | rfl | omega) | ((repeat' split) <;> first | rfl | (exfalso; omega) | omega)), rfl⟩)
    · have c_75 : ¬ (¬ (nI (tg f E e)) = 10) := of_decide_eq_false c_75
      have n_75 : tg f E e = 10 := (eq_nI (p := tg f E e) (n := 10) (Nat.lt_trans (tg_lt _ _ _) (by decide)) (by decide)).mp (Decidable.not_not.mp c_75)
      refine ps_st (S' := (79, [(3, .int (nI (tg f E e))), (0, .ref o), (1, .int (nI d)), (2, .int (nI e))], [.ref o], M)) rfl rfl rfl ?_
      refine ps_get (S' := (82, [(3, .int (nI (tg f E e))), (0, .ref o), (1, .int (nI d)), (2, .int (nI e))], [.ref q], M)) rfl h_o rfl rfl ?_
      refine ps_st (S' := (83, [(3, .int (nI (tg f E e))), (0, .ref o), (1, .int (nI d)), (2, .int (nI e))], [.int (nI e), .ref q], M)) rfl rfl rfl ?_
      refine pl_call (a := [.ref q, .int (nI e)]) (rest := []) rfl rfl rfl (dy_namesInit (f := f) (n := n) (N := N) (q := q) (E := E) (j := e) (hV) (by omega)) (fun v4 M5 q6 => ?_)
      obtain ⟨rfl, rfl⟩ := q6
      show pl _ _ _ (86, [(3, .int (nI (tg f E e))), (0, .ref o), (1, .int (nI d)), (2, .int (nI e))], [.int (nI (eqN (tX f n E (fi f E (se f E e))) (ltx 14)))], M) _
      refine ps_if (S1 := (93, [], [], M)) (S2 := (89, [(3, .int (nI (tg f E e))), (0, .ref o), (1, .int (nI d)), (2, .int (nI e))], [], M)) rfl rfl rfl (fun c_86 => ?_) (fun c_86 => ?_)
      · have c_86 : ¬ (nI (eqN (tX f n E (fi f E (se f E e))) (ltx 14))) = 0 := of_decide_eq_true c_86
        have n_86 : ¬ (eqN (tX f n E (fi f E (se f E e))) (ltx 14) = 0) := fun h9 => c_86 ((eq_nI (p := eqN (tX f n E (fi f E (se f E e))) (ltx 14)) (n := 0) (Nat.lt_trans (le1_eq _ _) (by decide)) (by decide)).mpr h9)
        refine ps_st (S' := (94, [], [.int 0], M)) rfl rfl rfl ?_
        exact ps_ret rfl rfl (⟨congrArg (fun x => some (Value.int (nI x))) (show 0 = hdlN f n E mj d e from by
            unfold hdlN
            first | ((repeat first | rw [if_pos (by omega)] | rw [if_neg (by omega)]) <;> first | rfl | omega) | ((repeat' split) <;> first | rfl | (exfalso; omega) | omega)), rfl⟩)
      · have c_86 : ¬ (¬ (nI (eqN (tX f n E (fi f E (se f E e))) (ltx 14))) = 0) := of_decide_eq_false c_86
        have n_86 : eqN (tX f n E (fi f E (se f E e))) (ltx 14) = 0 := (eq_nI (p := eqN (tX f n E (fi f E (se f E e))) (ltx 14)) (n := 0) (Nat.lt_trans (le1_eq _ _) (by decide)) (by decide)).mp (Decidable.not_not.mp c_86)
        refine ps_st (S' := (90, [(3, .int (nI (tg f E e))), (0, .ref o), (1, .int (nI d)), (2, .int (nI e))], [.int 1], M)) rfl rfl rfl ?_
        refine ps_st (S' := (94, [], [.int 1], M)) rfl rfl rfl ?_
        exact ps_ret rfl rfl (⟨congrArg (fun x => some (Value.int (nI x))) (show 1 = hdlN f n E mj d e from by
            unfold hdlN
            first | ((repeat first | rw [if_pos (by omega)] | rw [if_neg (by omega)]) <;> first | rfl | omega) | ((repeat' split) <;> first | rfl | (exfalso; omega) | omega)), rfl⟩)
  · show pl _ _ _ (95, [(3, .int (nI (tg f E e))), (0, .ref o), (1, .int (nI d)), (2, .int (nI e))], [], M) _
    have m_10 := sw_nat (t := d) (by omega) et_10
    simp at m_10
    refine ps_st (S' := (96, [(3, .int (nI (tg f E e))), (0, .ref o), (1, .int (nI d)), (2, .int (nI e))], [.int (nI (tg f E e))], M)) rfl rfl rfl ?_
    refine ps_st (S' := (98, [(3, .int (nI (tg f E e))), (0, .ref o), (1, .int (nI d)), (2, .int (nI e))], [.int 10, .int (nI (tg f E e))], M)) rfl rfl rfl ?_
    refine ps_if2 (S1 := (116, [(0, .ref o), (2, .int (nI e))], [], M)) (S2 := (101, [(3, .int (nI (tg f E e))), (0, .ref o), (1, .int (nI d)), (2, .int (nI e))], [], M)) rfl rfl rfl (fun c_98 => ?_) (fun c_98 => ?_)
    · have c_98 : (nI (tg f E e)) = 10 := of_decide_eq_true c_98
      have n_98 : tg f E e = 10 := (eq_nI (p := tg f E e) (n := 10) (Nat.lt_trans (tg_lt _ _ _) (by decide)) (by decide)).mp c_98
      refine ps_st (S' := (117, [(0, .ref o), (2, .int (nI e))], [.ref o], M)) rfl rfl rfl ?_
      refine ps_get (S' := (120, [(0, .ref o), (2, .int (nI e))], [.ref q], M)) rfl h_o rfl rfl ?_
      refine ps_st (S' := (121, [(0, .ref o), (2, .int (nI e))], [.int (nI e), .ref q], M)) rfl rfl rfl ?_
      refine pl_call (a := [.ref q, .int (nI e)]) (rest := []) rfl rfl rfl (dy_namesInit (f := f) (n := n) (N := N) (q := q) (E := E) (j := e) (hV) (by omega)) (fun v7 M8 q9 => ?_)
      obtain ⟨rfl, rfl⟩ := q9
      show pl _ _ _ (124, [(0, .ref o), (2, .int (nI e))], [.int (nI (eqN (tX f n E (fi f E (se f E e))) (ltx 14)))], M) _
      refine ps_if (S1 := (131, [], [], M)) (S2 := (127, [(0, .ref o), (2, .int (nI e))], [], M)) rfl rfl rfl (fun c_124 => ?_) (fun c_124 => ?_)
      · have c_124 : ¬ (nI (eqN (tX f n E (fi f E (se f E e))) (ltx 14))) = 0 := of_decide_eq_true c_124
        have n_124 : ¬ (eqN (tX f n E (fi f E (se f E e))) (ltx 14) = 0) := fun h9 => c_124 ((eq_nI (p := eqN (tX f n E (fi f E (se f E e))) (ltx 14)) (n := 0) (Nat.lt_trans (le1_eq _ _) (by decide)) (by decide)).mpr h9)
        refine ps_st (S' := (132, [], [.int 0], M)) rfl rfl rfl ?_
        exact ps_ret rfl rfl (⟨congrArg (fun x => some (Value.int (nI x))) (show 0 = hdlN f n E mj d e from by
            unfold hdlN
            first | ((repeat first | rw [if_pos (by omega)] | rw [if_neg (by omega)]) <;> first | rfl | omega) | ((repeat' split) <;> first | rfl | (exfalso; omega) | omega)), rfl⟩)
      · have c_124 : ¬ (¬ (nI (eqN (tX f n E (fi f E (se f E e))) (ltx 14))) = 0) := of_decide_eq_false c_124
        have n_124 : eqN (tX f n E (fi f E (se f E e))) (ltx 14) = 0 := (eq_nI (p := eqN (tX f n E (fi f E (se f E e))) (ltx 14)) (n := 0) (Nat.lt_trans (le1_eq _ _) (by decide)) (by decide)).mp (Decidable.not_not.mp c_124)
        refine ps_st (S' := (128, [(0, .ref o), (2, .int (nI e))], [.int 1], M)) rfl rfl rfl ?_
        refine ps_st (S' := (132, [], [.int 1], M)) rfl rfl rfl ?_
        exact ps_ret rfl rfl (⟨congrArg (fun x => some (Value.int (nI x))) (show 1 = hdlN f n E mj d e from by
            unfold hdlN
            first | ((repeat first | rw [if_pos (by omega)] | rw [if_neg (by omega)]) <;> first | rfl | omega) | ((repeat' split) <;> first | rfl | (exfalso; omega) | omega)), rfl⟩)
    · have c_98 : ¬ ((nI (tg f E e)) = 10) := of_decide_eq_false c_98
      have n_98 : ¬ (tg f E e = 10) := fun h9 => c_98 ((eq_nI (p := tg f E e) (n := 10) (Nat.lt_trans (tg_lt _ _ _) (by decide)) (by decide)).mpr h9)
      refine ps_st (S' := (102, [(3, .int (nI (tg f E e))), (0, .ref o), (1, .int (nI d)), (2, .int (nI e))], [.int (nI (tg f E e))], M)) rfl rfl rfl ?_
      refine ps_st (S' := (104, [(3, .int (nI (tg f E e))), (0, .ref o), (1, .int (nI d)), (2, .int (nI e))], [.int 11, .int (nI (tg f E e))], M)) rfl rfl rfl ?_
      refine ps_if2 (S1 := (131, [], [], M)) (S2 := (107, [(3, .int (nI (tg f E e))), (0, .ref o), (1, .int (nI d)), (2, .int (nI e))], [], M)) rfl rfl rfl (fun c_104 => ?_) (fun c_104 => ?_)
      · have c_104 : ¬ (nI (tg f E e)) = 11 := of_decide_eq_true c_104
        have n_104 : ¬ (tg f E e = 11) := fun h9 => c_104 ((eq_nI (p := tg f E e) (n := 11) (Nat.lt_trans (tg_lt _ _ _) (by decide)) (by decide)).mpr h9)
        refine ps_st (S' := (132, [], [.int 0], M)) rfl rfl rfl ?_
        exact ps_ret rfl rfl (⟨congrArg (fun x => some (Value.int (nI x))) (show 0 = hdlN f n E mj d e from by
            unfold hdlN
            first | ((repeat first | rw [if_pos (by omega)] | rw [if_neg (by omega)]) <;> first | rfl | omega) | ((repeat' split) <;> first | rfl | (exfalso; omega) | omega)), rfl⟩)
      · have c_104 : ¬ (¬ (nI (tg f E e)) = 11) := of_decide_eq_false c_104
        have n_104 : tg f E e = 11 := (eq_nI (p := tg f E e) (n := 11) (Nat.lt_trans (tg_lt _ _ _) (by decide)) (by decide)).mp (Decidable.not_not.mp c_104)
        refine ps_st (S' := (108, [(3, .int (nI (tg f E e))), (0, .ref o), (1, .int (nI d)), (2, .int (nI e))], [.ref o], M)) rfl rfl rfl ?_
        refine ps_get (S' := (111, [(3, .int (nI (tg f E e))), (0, .ref o), (1, .int (nI d)), (2, .int (nI e))], [.int (nI mj)], M)) rfl h_o rfl rfl ?_
        refine ps_st (S' := (113, [(3, .int (nI (tg f E e))), (0, .ref o), (1, .int (nI d)), (2, .int (nI e))], [.int 52, .int (nI mj)], M)) rfl rfl rfl ?_
        refine ps_if2 (S1 := (131, [], [], M)) (S2 := (116, [(0, .ref o), (2, .int (nI e))], [], M)) rfl rfl rfl (fun c_113 => ?_) (fun c_113 => ?_)
        · have c_113 : (nI mj) < 52 := of_decide_eq_true c_113
          have n_113 : mj < 52 := (lt_nI (p := mj) (n := 52) (by omega) (by decide)).mp c_113
          refine ps_st (S' := (132, [], [.int 0], M)) rfl rfl rfl ?_
          exact ps_ret rfl rfl (⟨congrArg (fun x => some (Value.int (nI x))) (show 0 = hdlN f n E mj d e from by
              unfold hdlN
              first | ((repeat first | rw [if_pos (by omega)] | rw [if_neg (by omega)]) <;> first | rfl | omega) | ((repeat' split) <;> first | rfl | (exfalso; omega) | omega)), rfl⟩)
        · have c_113 : ¬ ((nI mj) < 52) := of_decide_eq_false c_113
          have n_113 : ¬ (mj < 52) := fun h9 => c_113 ((lt_nI (p := mj) (n := 52) (by omega) (by decide)).mpr h9)
          refine ps_st (S' := (117, [(0, .ref o), (2, .int (nI e))], [.ref o], M)) rfl rfl rfl ?_
          refine ps_get (S' := (120, [(0, .ref o), (2, .int (nI e))], [.ref q], M)) rfl h_o rfl rfl ?_
          refine ps_st (S' := (121, [(0, .ref o), (2, .int (nI e))], [.int (nI e), .ref q], M)) rfl rfl rfl ?_
          refine pl_call (a := [.ref q, .int (nI e)]) (rest := []) rfl rfl rfl (dy_namesInit (f := f) (n := n) (N := N) (q := q) (E := E) (j := e) (hV) (by omega)) (fun v10 M11 q12 => ?_)
          obtain ⟨rfl, rfl⟩ := q12
          show pl _ _ _ (124, [(0, .ref o), (2, .int (nI e))], [.int (nI (eqN (tX f n E (fi f E (se f E e))) (ltx 14)))], M) _
          refine ps_if (S1 := (131, [], [], M)) (S2 := (127, [(0, .ref o), (2, .int (nI e))], [], M)) rfl rfl rfl (fun c_124 => ?_) (fun c_124 => ?_)
          · have c_124 : ¬ (nI (eqN (tX f n E (fi f E (se f E e))) (ltx 14))) = 0 := of_decide_eq_true c_124
            have n_124 : ¬ (eqN (tX f n E (fi f E (se f E e))) (ltx 14) = 0) := fun h9 => c_124 ((eq_nI (p := eqN (tX f n E (fi f E (se f E e))) (ltx 14)) (n := 0) (Nat.lt_trans (le1_eq _ _) (by decide)) (by decide)).mpr h9)
            refine ps_st (S' := (132, [], [.int 0], M)) rfl rfl rfl ?_
            exact ps_ret rfl rfl (⟨congrArg (fun x => some (Value.int (nI x))) (show 0 = hdlN f n E mj d e from by
                unfold hdlN
                first | ((repeat first | rw [if_pos (by omega)] | rw [if_neg (by omega)]) <;> first | rfl | omega) | ((repeat' split) <;> first | rfl | (exfalso; omega) | omega)), rfl⟩)
          · have c_124 : ¬ (¬ (nI (eqN (tX f n E (fi f E (se f E e))) (ltx 14))) = 0) := of_decide_eq_false c_124
            have n_124 : eqN (tX f n E (fi f E (se f E e))) (ltx 14) = 0 := (eq_nI (p := eqN (tX f n E (fi f E (se f E e))) (ltx 14)) (n := 0) (Nat.lt_trans (le1_eq _ _) (by decide)) (by decide)).mp (Decidable.not_not.mp c_124)
            refine ps_st (S' := (128, [(0, .ref o), (2, .int (nI e))], [.int 1], M)) rfl rfl rfl ?_
            refine ps_st (S' := (132, [], [.int 1], M)) rfl rfl rfl ?_
            exact ps_ret rfl rfl (⟨congrArg (fun x => some (Value.int (nI x))) (show 1 = hdlN f n E mj d e from by
                unfold hdlN
                first | ((repeat first | rw [if_pos (by omega)] | rw [if_neg (by omega)]) <;> first | rfl | omega) | ((repeat' split) <;> first | rfl | (exfalso; omega) | omega)), rfl⟩)
  · show pl _ _ _ (133, [(3, .int (nI (tg f E e))), (0, .ref o), (1, .int (nI d)), (2, .int (nI e))], [], M) _
    have m_10 := sw_nat (t := d) (by omega) et_10
    simp at m_10
    refine ps_st (S' := (134, [(3, .int (nI (tg f E e))), (0, .ref o), (1, .int (nI d)), (2, .int (nI e))], [.int (nI (tg f E e))], M)) rfl rfl rfl ?_
    refine ps_st (S' := (136, [(3, .int (nI (tg f E e))), (0, .ref o), (1, .int (nI d)), (2, .int (nI e))], [.int 10, .int (nI (tg f E e))], M)) rfl rfl rfl ?_
    refine ps_if2 (S1 := (154, [], [], M)) (S2 := (139, [(3, .int (nI (tg f E e))), (0, .ref o), (1, .int (nI d)), (2, .int (nI e))], [], M)) rfl rfl rfl (fun c_136 => ?_) (fun c_136 => ?_)
    · have c_136 : ¬ (nI (tg f E e)) = 10 := of_decide_eq_true c_136
      have n_136 : ¬ (tg f E e = 10) := fun h9 => c_136 ((eq_nI (p := tg f E e) (n := 10) (Nat.lt_trans (tg_lt _ _ _) (by decide)) (by decide)).mpr h9)
      refine ps_st (S' := (155, [], [.int 0], M)) rfl rfl rfl ?_
      exact ps_ret rfl rfl (⟨congrArg (fun x => some (Value.int (nI x))) (show 0 = hdlN f n E mj d e from by
          unfold hdlN
          first | ((repeat first | rw [if_pos (by omega)] | rw [if_neg (by omega)]) <;> first | rfl | omega) | ((repeat' split) <;> first | rfl | (exfalso; omega) | omega)), rfl⟩)
    · have c_136 : ¬ (¬ (nI (tg f E e)) = 10) := of_decide_eq_false c_136
      have n_136 : tg f E e = 10 := (eq_nI (p := tg f E e) (n := 10) (Nat.lt_trans (tg_lt _ _ _) (by decide)) (by decide)).mp (Decidable.not_not.mp c_136)
      refine ps_st (S' := (140, [(3, .int (nI (tg f E e))), (0, .ref o), (1, .int (nI d)), (2, .int (nI e))], [.ref o], M)) rfl rfl rfl ?_
      refine ps_get (S' := (143, [(3, .int (nI (tg f E e))), (0, .ref o), (1, .int (nI d)), (2, .int (nI e))], [.ref q], M)) rfl h_o rfl rfl ?_
      refine ps_st (S' := (144, [(3, .int (nI (tg f E e))), (0, .ref o), (1, .int (nI d)), (2, .int (nI e))], [.int (nI e), .ref q], M)) rfl rfl rfl ?_
      refine pl_call (a := [.ref q, .int (nI e)]) (rest := []) rfl rfl rfl (dy_namesInit (f := f) (n := n) (N := N) (q := q) (E := E) (j := e) (hV) (by omega)) (fun v13 M14 q15 => ?_)
      obtain ⟨rfl, rfl⟩ := q15
      show pl _ _ _ (147, [(3, .int (nI (tg f E e))), (0, .ref o), (1, .int (nI d)), (2, .int (nI e))], [.int (nI (eqN (tX f n E (fi f E (se f E e))) (ltx 14)))], M) _
      refine ps_if (S1 := (154, [], [], M)) (S2 := (150, [(3, .int (nI (tg f E e))), (0, .ref o), (1, .int (nI d)), (2, .int (nI e))], [], M)) rfl rfl rfl (fun c_147 => ?_) (fun c_147 => ?_)
      · have c_147 : (nI (eqN (tX f n E (fi f E (se f E e))) (ltx 14))) = 0 := of_decide_eq_true c_147
        have n_147 : eqN (tX f n E (fi f E (se f E e))) (ltx 14) = 0 := (eq_nI (p := eqN (tX f n E (fi f E (se f E e))) (ltx 14)) (n := 0) (Nat.lt_trans (le1_eq _ _) (by decide)) (by decide)).mp c_147
        refine ps_st (S' := (155, [], [.int 0], M)) rfl rfl rfl ?_
        exact ps_ret rfl rfl (⟨congrArg (fun x => some (Value.int (nI x))) (show 0 = hdlN f n E mj d e from by
            unfold hdlN
            first | ((repeat first | rw [if_pos (by omega)] | rw [if_neg (by omega)]) <;> first | rfl | omega) | ((repeat' split) <;> first | rfl | (exfalso; omega) | omega)), rfl⟩)
      · have c_147 : ¬ ((nI (eqN (tX f n E (fi f E (se f E e))) (ltx 14))) = 0) := of_decide_eq_false c_147
        have n_147 : ¬ (eqN (tX f n E (fi f E (se f E e))) (ltx 14) = 0) := fun h9 => c_147 ((eq_nI (p := eqN (tX f n E (fi f E (se f E e))) (ltx 14)) (n := 0) (Nat.lt_trans (le1_eq _ _) (by decide)) (by decide)).mpr h9)
        refine ps_st (S' := (151, [(3, .int (nI (tg f E e))), (0, .ref o), (1, .int (nI d)), (2, .int (nI e))], [.int 1], M)) rfl rfl rfl ?_
        refine ps_st (S' := (155, [], [.int 1], M)) rfl rfl rfl ?_
        exact ps_ret rfl rfl (⟨congrArg (fun x => some (Value.int (nI x))) (show 1 = hdlN f n E mj d e from by
            unfold hdlN
            first | ((repeat first | rw [if_pos (by omega)] | rw [if_neg (by omega)]) <;> first | rfl | omega) | ((repeat' split) <;> first | rfl | (exfalso; omega) | omega)), rfl⟩)
  · show pl _ _ _ (156, [(3, .int (nI (tg f E e))), (0, .ref o), (1, .int (nI d)), (2, .int (nI e))], [], M) _
    have m_10 := sw_nat (t := d) (by omega) et_10
    simp at m_10
    refine ps_st (S' := (157, [(3, .int (nI (tg f E e))), (0, .ref o), (1, .int (nI d)), (2, .int (nI e))], [.int (nI (tg f E e))], M)) rfl rfl rfl ?_
    refine ps_st (S' := (159, [(3, .int (nI (tg f E e))), (0, .ref o), (1, .int (nI d)), (2, .int (nI e))], [.int 11, .int (nI (tg f E e))], M)) rfl rfl rfl ?_
    refine ps_if2 (S1 := (177, [], [], M)) (S2 := (162, [(3, .int (nI (tg f E e))), (0, .ref o), (1, .int (nI d)), (2, .int (nI e))], [], M)) rfl rfl rfl (fun c_159 => ?_) (fun c_159 => ?_)
    · have c_159 : ¬ (nI (tg f E e)) = 11 := of_decide_eq_true c_159
      have n_159 : ¬ (tg f E e = 11) := fun h9 => c_159 ((eq_nI (p := tg f E e) (n := 11) (Nat.lt_trans (tg_lt _ _ _) (by decide)) (by decide)).mpr h9)
      refine ps_st (S' := (178, [], [.int 0], M)) rfl rfl rfl ?_
      exact ps_ret rfl rfl (⟨congrArg (fun x => some (Value.int (nI x))) (show 0 = hdlN f n E mj d e from by
          unfold hdlN
          first | ((repeat first | rw [if_pos (by omega)] | rw [if_neg (by omega)]) <;> first | rfl | omega) | ((repeat' split) <;> first | rfl | (exfalso; omega) | omega)), rfl⟩)
    · have c_159 : ¬ (¬ (nI (tg f E e)) = 11) := of_decide_eq_false c_159
      have n_159 : tg f E e = 11 := (eq_nI (p := tg f E e) (n := 11) (Nat.lt_trans (tg_lt _ _ _) (by decide)) (by decide)).mp (Decidable.not_not.mp c_159)
      refine ps_st (S' := (163, [(3, .int (nI (tg f E e))), (0, .ref o), (1, .int (nI d)), (2, .int (nI e))], [.ref o], M)) rfl rfl rfl ?_
      refine ps_get (S' := (166, [(3, .int (nI (tg f E e))), (0, .ref o), (1, .int (nI d)), (2, .int (nI e))], [.ref q], M)) rfl h_o rfl rfl ?_
      refine ps_st (S' := (167, [(3, .int (nI (tg f E e))), (0, .ref o), (1, .int (nI d)), (2, .int (nI e))], [.int (nI e), .ref q], M)) rfl rfl rfl ?_
      refine pl_call (a := [.ref q, .int (nI e)]) (rest := []) rfl rfl rfl (dy_namesInit (f := f) (n := n) (N := N) (q := q) (E := E) (j := e) (hV) (by omega)) (fun v16 M17 q18 => ?_)
      obtain ⟨rfl, rfl⟩ := q18
      show pl _ _ _ (170, [(3, .int (nI (tg f E e))), (0, .ref o), (1, .int (nI d)), (2, .int (nI e))], [.int (nI (eqN (tX f n E (fi f E (se f E e))) (ltx 14)))], M) _
      refine ps_if (S1 := (177, [], [], M)) (S2 := (173, [(3, .int (nI (tg f E e))), (0, .ref o), (1, .int (nI d)), (2, .int (nI e))], [], M)) rfl rfl rfl (fun c_170 => ?_) (fun c_170 => ?_)
      · have c_170 : ¬ (nI (eqN (tX f n E (fi f E (se f E e))) (ltx 14))) = 0 := of_decide_eq_true c_170
        have n_170 : ¬ (eqN (tX f n E (fi f E (se f E e))) (ltx 14) = 0) := fun h9 => c_170 ((eq_nI (p := eqN (tX f n E (fi f E (se f E e))) (ltx 14)) (n := 0) (Nat.lt_trans (le1_eq _ _) (by decide)) (by decide)).mpr h9)
        refine ps_st (S' := (178, [], [.int 0], M)) rfl rfl rfl ?_
        exact ps_ret rfl rfl (⟨congrArg (fun x => some (Value.int (nI x))) (show 0 = hdlN f n E mj d e from by
            unfold hdlN
            first | ((repeat first | rw [if_pos (by omega)] | rw [if_neg (by omega)]) <;> first | rfl | omega) | ((repeat' split) <;> first | rfl | (exfalso; omega) | omega)), rfl⟩)
      · have c_170 : ¬ (¬ (nI (eqN (tX f n E (fi f E (se f E e))) (ltx 14))) = 0) := of_decide_eq_false c_170
        have n_170 : eqN (tX f n E (fi f E (se f E e))) (ltx 14) = 0 := (eq_nI (p := eqN (tX f n E (fi f E (se f E e))) (ltx 14)) (n := 0) (Nat.lt_trans (le1_eq _ _) (by decide)) (by decide)).mp (Decidable.not_not.mp c_170)
        refine ps_st (S' := (174, [(3, .int (nI (tg f E e))), (0, .ref o), (1, .int (nI d)), (2, .int (nI e))], [.int 1], M)) rfl rfl rfl ?_
        refine ps_st (S' := (178, [], [.int 1], M)) rfl rfl rfl ?_
        exact ps_ret rfl rfl (⟨congrArg (fun x => some (Value.int (nI x))) (show 1 = hdlN f n E mj d e from by
            unfold hdlN
            first | ((repeat first | rw [if_pos (by omega)] | rw [if_neg (by omega)]) <;> first | rfl | omega) | ((repeat' split) <;> first | rfl | (exfalso; omega) | omega)), rfl⟩)
  · show pl _ _ _ (179, [(3, .int (nI (tg f E e))), (0, .ref o), (1, .int (nI d)), (2, .int (nI e))], [], M) _
    have m_10 := sw_nat (t := d) (by omega) et_10
    simp at m_10
    refine ps_st (S' := (180, [(3, .int (nI (tg f E e))), (0, .ref o), (1, .int (nI d)), (2, .int (nI e))], [.int 0], M)) rfl rfl rfl ?_
    exact ps_ret rfl rfl (⟨congrArg (fun x => some (Value.int (nI x))) (show 0 = hdlN f n E mj d e from by
        unfold hdlN
        first | ((repeat first | rw [if_pos (by omega)] | rw [if_neg (by omega)]) <;> first | rfl | omega) | ((repeat' split) <;> first | rfl | (exfalso; omega) | omega)), rfl⟩)
set_option maxHeartbeats 1000000 in
theorem dk_brokenRule {g : xe_G} {M : mi_H} {f : Nat → Int32} {n N q : Nat} {E : List (Nat × Nat)} {o vd mj : Nat} {k : Nat} (h_o : M.1 o = some (ob 8 [.ref q, .int (nI mj), .ref vd])) (hV : PV g f n N E q M) (hmj : mj < 65536) (hk : k < 65536) : pt (mT g) 145 [.ref o, .int (nI k)] M (fun v M' => (v = some (.int (nI (brkN f n E mj k))) ∧ M = M')) := by
  refine pt_in (b := mb_145 g) rfl (fun kf => ?_)
  show pl (mT g) kf (mb_145 g).2 (0, [(0, .ref o), (1, .int (nI k))], [], M) _
  refine ps_st (S' := (1, [(0, .ref o), (1, .int (nI k))], [.ref o], M)) rfl rfl rfl ?_
  refine ps_get (S' := (4, [(0, .ref o), (1, .int (nI k))], [.ref q], M)) rfl h_o rfl rfl ?_
  refine ps_st (S' := (5, [(0, .ref o), (1, .int (nI k))], [.int (nI k), .ref q], M)) rfl rfl rfl ?_
  refine pl_call (a := [.ref q, .int (nI k)]) (rest := []) rfl rfl rfl (dy_tagOf (f := f) (n := n) (N := N) (q := q) (E := E) (j := k) (hV) (by omega)) (fun v1 M2 q3 => ?_)
  obtain ⟨rfl, rfl⟩ := q3
  show pl _ _ _ (8, [(0, .ref o), (1, .int (nI k))], [.int (nI (tg f E k))], M) _
  refine pl_sw rfl (fun t_8 et_8 => ?_)
  have ht_8 : t_8 ∈ [72, 97, 112, 137, 152, 182, 207, 250, 293] := mi_sw_sub et_8 (by decide)
  simp only [List.mem_cons, List.not_mem_nil, or_false] at ht_8
  rcases ht_8 with rfl | rfl | rfl | rfl | rfl | rfl | rfl | rfl | rfl
  · show pl _ _ _ (72, [(0, .ref o), (1, .int (nI k))], [], M) _
    have m_8 := sw_nat (t := tg f E k) (Nat.lt_trans (tg_lt _ _ _) (by decide)) et_8
    simp at m_8
    refine ps_st (S' := (73, [(0, .ref o), (1, .int (nI k))], [.ref o], M)) rfl rfl rfl ?_
    refine ps_get (S' := (76, [(0, .ref o), (1, .int (nI k))], [.ref q], M)) rfl h_o rfl rfl ?_
    refine ps_st (S' := (77, [(0, .ref o), (1, .int (nI k))], [.ref o, .ref q], M)) rfl rfl rfl ?_
    refine ps_get (S' := (80, [(0, .ref o), (1, .int (nI k))], [.ref q, .ref q], M)) rfl h_o rfl rfl ?_
    refine ps_st (S' := (81, [(0, .ref o), (1, .int (nI k))], [.int (nI k), .ref q, .ref q], M)) rfl rfl rfl ?_
    refine pl_call (a := [.ref q, .int (nI k)]) (rest := [.ref q]) rfl rfl rfl (dy_firstIndex (f := f) (n := n) (N := N) (q := q) (E := E) (j := k) (hV) (by omega)) (fun v4 M5 q6 => ?_)
    obtain ⟨rfl, rfl⟩ := q6
    show pl _ _ _ (84, [(0, .ref o), (1, .int (nI k))], [.int (nI (fi f E k)), .ref q], M) _
    refine pl_call (a := [.ref q, .int (nI (fi f E k))]) (rest := []) rfl rfl rfl (dy_isClassText (f := f) (n := n) (N := N) (q := q) (E := E) (j := (fi f E k)) (hV) (fi_lt _ _ _)) (fun v7 M8 q9 => ?_)
    obtain ⟨rfl, rfl⟩ := q9
    show pl _ _ _ (87, [(0, .ref o), (1, .int (nI k))], [.int (nI (clsN (tX f n E (fi f E k))))], M) _
    refine ps_if (S1 := (94, [(0, .ref o), (1, .int (nI k))], [], M)) (S2 := (90, [(0, .ref o), (1, .int (nI k))], [], M)) rfl rfl rfl (fun c_87 => ?_) (fun c_87 => ?_)
    · have c_87 : (nI (clsN (tX f n E (fi f E k)))) = 0 := of_decide_eq_true c_87
      have n_87 : clsN (tX f n E (fi f E k)) = 0 := (eq_nI (p := clsN (tX f n E (fi f E k))) (n := 0) (Nat.lt_trans (le1_cls _) (by decide)) (by decide)).mp c_87
      refine ps_st (S' := (96, [], [.int 10], M)) rfl rfl rfl ?_
      exact ps_ret rfl rfl (⟨congrArg (fun x => some (Value.int (nI x))) (show 10 = brkN f n E mj k from by
          unfold brkN
          first | ((repeat first | rw [if_pos (by omega)] | rw [if_neg (by omega)]) <;> first | rfl | omega) | ((repeat' split) <;> first | rfl | (exfalso; omega) | omega)), rfl⟩)
    · have c_87 : ¬ ((nI (clsN (tX f n E (fi f E k)))) = 0) := of_decide_eq_false c_87
      have n_87 : ¬ (clsN (tX f n E (fi f E k)) = 0) := fun h9 => c_87 ((eq_nI (p := clsN (tX f n E (fi f E k))) (n := 0) (Nat.lt_trans (le1_cls _) (by decide)) (by decide)).mpr h9)
      refine ps_st (S' := (91, [(0, .ref o), (1, .int (nI k))], [.int 0], M)) rfl rfl rfl ?_
      refine ps_st (S' := (96, [], [.int 0], M)) rfl rfl rfl ?_
      exact ps_ret rfl rfl (⟨congrArg (fun x => some (Value.int (nI x))) (show 0 = brkN f n E mj k from by
          unfold brkN
          first | ((repeat first | rw [if_pos (by omega)] | rw [if_neg (by omega)]) <;> first | rfl | omega) | ((repeat' split) <;> first | rfl | (exfalso; omega) | omega)), rfl⟩)
  · show pl _ _ _ (97, [(0, .ref o), (1, .int (nI k))], [], M) _
    have m_8 := sw_nat (t := tg f E k) (Nat.lt_trans (tg_lt _ _ _) (by decide)) et_8
    simp at m_8
    refine ps_st (S' := (98, [(0, .ref o), (1, .int (nI k))], [.ref o], M)) rfl rfl rfl ?_
    refine ps_st (S' := (99, [(0, .ref o), (1, .int (nI k))], [.int (nI k), .ref o], M)) rfl rfl rfl ?_
    refine pl_call (a := [.ref o, .int (nI k)]) (rest := []) rfl rfl rfl (dk_isNameWithType (f := f) (n := n) (N := N) (q := q) (E := E) (o := o) (vd := vd) (mj := mj) (k := k) h_o (hV) (hmj) (by omega)) (fun v10 M11 q12 => ?_)
    obtain ⟨rfl, rfl⟩ := q12
    show pl _ _ _ (102, [(0, .ref o), (1, .int (nI k))], [.int (nI (nwtN f n E k))], M) _
    refine ps_if (S1 := (109, [(0, .ref o), (1, .int (nI k))], [], M)) (S2 := (105, [(0, .ref o), (1, .int (nI k))], [], M)) rfl rfl rfl (fun c_102 => ?_) (fun c_102 => ?_)
    · have c_102 : (nI (nwtN f n E k)) = 0 := of_decide_eq_true c_102
      have n_102 : nwtN f n E k = 0 := (eq_nI (p := nwtN f n E k) (n := 0) (Nat.lt_trans (le1_nwt _ _ _ _) (by decide)) (by decide)).mp c_102
      refine ps_st (S' := (111, [], [.int 11], M)) rfl rfl rfl ?_
      exact ps_ret rfl rfl (⟨congrArg (fun x => some (Value.int (nI x))) (show 11 = brkN f n E mj k from by
          unfold brkN
          first | ((repeat first | rw [if_pos (by omega)] | rw [if_neg (by omega)]) <;> first | rfl | omega) | ((repeat' split) <;> first | rfl | (exfalso; omega) | omega)), rfl⟩)
    · have c_102 : ¬ ((nI (nwtN f n E k)) = 0) := of_decide_eq_false c_102
      have n_102 : ¬ (nwtN f n E k = 0) := fun h9 => c_102 ((eq_nI (p := nwtN f n E k) (n := 0) (Nat.lt_trans (le1_nwt _ _ _ _) (by decide)) (by decide)).mpr h9)
      refine ps_st (S' := (106, [(0, .ref o), (1, .int (nI k))], [.int 0], M)) rfl rfl rfl ?_
      refine ps_st (S' := (111, [], [.int 0], M)) rfl rfl rfl ?_
      exact ps_ret rfl rfl (⟨congrArg (fun x => some (Value.int (nI x))) (show 0 = brkN f n E mj k from by
          unfold brkN
          first | ((repeat first | rw [if_pos (by omega)] | rw [if_neg (by omega)]) <;> first | rfl | omega) | ((repeat' split) <;> first | rfl | (exfalso; omega) | omega)), rfl⟩)
  · show pl _ _ _ (112, [(0, .ref o), (1, .int (nI k))], [], M) _
    have m_8 := sw_nat (t := tg f E k) (Nat.lt_trans (tg_lt _ _ _) (by decide)) et_8
    simp at m_8
    refine ps_st (S' := (113, [(0, .ref o), (1, .int (nI k))], [.ref o], M)) rfl rfl rfl ?_
    refine ps_get (S' := (116, [(0, .ref o), (1, .int (nI k))], [.ref q], M)) rfl h_o rfl rfl ?_
    refine ps_st (S' := (117, [(0, .ref o), (1, .int (nI k))], [.ref o, .ref q], M)) rfl rfl rfl ?_
    refine ps_get (S' := (120, [(0, .ref o), (1, .int (nI k))], [.ref q, .ref q], M)) rfl h_o rfl rfl ?_
    refine ps_st (S' := (121, [(0, .ref o), (1, .int (nI k))], [.int (nI k), .ref q, .ref q], M)) rfl rfl rfl ?_
    refine pl_call (a := [.ref q, .int (nI k)]) (rest := [.ref q]) rfl rfl rfl (dy_descriptorOf (f := f) (n := n) (N := N) (q := q) (E := E) (j := k) (hV) (by omega)) (fun v13 M14 q15 => ?_)
    obtain ⟨rfl, rfl⟩ := q15
    show pl _ _ _ (124, [(0, .ref o), (1, .int (nI k))], [.int (nI (se f E (se f E k))), .ref q], M) _
    refine pl_call (a := [.ref q, .int (nI (se f E (se f E k)))]) (rest := []) rfl rfl rfl (dy_isFieldDescriptor (f := f) (n := n) (N := N) (q := q) (E := E) (j := (se f E (se f E k))) (hV) (se_lt _ _ _)) (fun v16 M17 q18 => ?_)
    obtain ⟨rfl, rfl⟩ := q18
    show pl _ _ _ (127, [(0, .ref o), (1, .int (nI k))], [.int (nI (fldN (tX f n E (se f E (se f E k)))))], M) _
    refine ps_if (S1 := (134, [(0, .ref o), (1, .int (nI k))], [], M)) (S2 := (130, [(0, .ref o), (1, .int (nI k))], [], M)) rfl rfl rfl (fun c_127 => ?_) (fun c_127 => ?_)
    · have c_127 : (nI (fldN (tX f n E (se f E (se f E k))))) = 0 := of_decide_eq_true c_127
      have n_127 : fldN (tX f n E (se f E (se f E k))) = 0 := (eq_nI (p := fldN (tX f n E (se f E (se f E k)))) (n := 0) (Nat.lt_trans (le1_fld _) (by decide)) (by decide)).mp c_127
      refine ps_st (S' := (136, [], [.int 12], M)) rfl rfl rfl ?_
      exact ps_ret rfl rfl (⟨congrArg (fun x => some (Value.int (nI x))) (show 12 = brkN f n E mj k from by
          unfold brkN
          first | ((repeat first | rw [if_pos (by omega)] | rw [if_neg (by omega)]) <;> first | rfl | omega) | ((repeat' split) <;> first | rfl | (exfalso; omega) | omega)), rfl⟩)
    · have c_127 : ¬ ((nI (fldN (tX f n E (se f E (se f E k))))) = 0) := of_decide_eq_false c_127
      have n_127 : ¬ (fldN (tX f n E (se f E (se f E k))) = 0) := fun h9 => c_127 ((eq_nI (p := fldN (tX f n E (se f E (se f E k)))) (n := 0) (Nat.lt_trans (le1_fld _) (by decide)) (by decide)).mpr h9)
      refine ps_st (S' := (131, [(0, .ref o), (1, .int (nI k))], [.int 0], M)) rfl rfl rfl ?_
      refine ps_st (S' := (136, [], [.int 0], M)) rfl rfl rfl ?_
      exact ps_ret rfl rfl (⟨congrArg (fun x => some (Value.int (nI x))) (show 0 = brkN f n E mj k from by
          unfold brkN
          first | ((repeat first | rw [if_pos (by omega)] | rw [if_neg (by omega)]) <;> first | rfl | omega) | ((repeat' split) <;> first | rfl | (exfalso; omega) | omega)), rfl⟩)
  · show pl _ _ _ (137, [(0, .ref o), (1, .int (nI k))], [], M) _
    have m_8 := sw_nat (t := tg f E k) (Nat.lt_trans (tg_lt _ _ _) (by decide)) et_8
    simp at m_8
    refine ps_st (S' := (138, [(0, .ref o), (1, .int (nI k))], [.ref o], M)) rfl rfl rfl ?_
    refine ps_st (S' := (139, [(0, .ref o), (1, .int (nI k))], [.int (nI k), .ref o], M)) rfl rfl rfl ?_
    refine pl_call (a := [.ref o, .int (nI k)]) (rest := []) rfl rfl rfl (dk_isMethodRef (f := f) (n := n) (N := N) (q := q) (E := E) (o := o) (vd := vd) (mj := mj) (k := k) h_o (hV) (hmj) (by omega)) (fun v19 M20 q21 => ?_)
    obtain ⟨rfl, rfl⟩ := q21
    show pl _ _ _ (142, [(0, .ref o), (1, .int (nI k))], [.int (nI (mrfN f n E k))], M) _
    refine ps_if (S1 := (149, [(0, .ref o), (1, .int (nI k))], [], M)) (S2 := (145, [(0, .ref o), (1, .int (nI k))], [], M)) rfl rfl rfl (fun c_142 => ?_) (fun c_142 => ?_)
    · have c_142 : (nI (mrfN f n E k)) = 0 := of_decide_eq_true c_142
      have n_142 : mrfN f n E k = 0 := (eq_nI (p := mrfN f n E k) (n := 0) (Nat.lt_trans (le1_mrf _ _ _ _) (by decide)) (by decide)).mp c_142
      refine ps_st (S' := (151, [], [.int 12], M)) rfl rfl rfl ?_
      exact ps_ret rfl rfl (⟨congrArg (fun x => some (Value.int (nI x))) (show 12 = brkN f n E mj k from by
          unfold brkN
          first | ((repeat first | rw [if_pos (by omega)] | rw [if_neg (by omega)]) <;> first | rfl | omega) | ((repeat' split) <;> first | rfl | (exfalso; omega) | omega)), rfl⟩)
    · have c_142 : ¬ ((nI (mrfN f n E k)) = 0) := of_decide_eq_false c_142
      have n_142 : ¬ (mrfN f n E k = 0) := fun h9 => c_142 ((eq_nI (p := mrfN f n E k) (n := 0) (Nat.lt_trans (le1_mrf _ _ _ _) (by decide)) (by decide)).mpr h9)
      refine ps_st (S' := (146, [(0, .ref o), (1, .int (nI k))], [.int 0], M)) rfl rfl rfl ?_
      refine ps_st (S' := (151, [], [.int 0], M)) rfl rfl rfl ?_
      exact ps_ret rfl rfl (⟨congrArg (fun x => some (Value.int (nI x))) (show 0 = brkN f n E mj k from by
          unfold brkN
          first | ((repeat first | rw [if_pos (by omega)] | rw [if_neg (by omega)]) <;> first | rfl | omega) | ((repeat' split) <;> first | rfl | (exfalso; omega) | omega)), rfl⟩)
  · show pl _ _ _ (152, [(0, .ref o), (1, .int (nI k))], [], M) _
    have m_8 := sw_nat (t := tg f E k) (Nat.lt_trans (tg_lt _ _ _) (by decide)) et_8
    simp at m_8
    refine ps_st (S' := (153, [(0, .ref o), (1, .int (nI k))], [.ref o], M)) rfl rfl rfl ?_
    refine ps_st (S' := (154, [(0, .ref o), (1, .int (nI k))], [.ref o, .ref o], M)) rfl rfl rfl ?_
    refine ps_get (S' := (157, [(0, .ref o), (1, .int (nI k))], [.ref q, .ref o], M)) rfl h_o rfl rfl ?_
    refine ps_st (S' := (158, [(0, .ref o), (1, .int (nI k))], [.int (nI k), .ref q, .ref o], M)) rfl rfl rfl ?_
    refine pl_call (a := [.ref q, .int (nI k)]) (rest := [.ref o]) rfl rfl rfl (dy_firstIndex (f := f) (n := n) (N := N) (q := q) (E := E) (j := k) (hV) (by omega)) (fun v22 M23 q24 => ?_)
    obtain ⟨rfl, rfl⟩ := q24
    show pl _ _ _ (161, [(0, .ref o), (1, .int (nI k))], [.int (nI (fi f E k)), .ref o], M) _
    refine ps_st (S' := (162, [(0, .ref o), (1, .int (nI k))], [.ref o, .int (nI (fi f E k)), .ref o], M)) rfl rfl rfl ?_
    refine ps_get (S' := (165, [(0, .ref o), (1, .int (nI k))], [.ref q, .int (nI (fi f E k)), .ref o], M)) rfl h_o rfl rfl ?_
    refine ps_st (S' := (166, [(0, .ref o), (1, .int (nI k))], [.int (nI k), .ref q, .int (nI (fi f E k)), .ref o], M)) rfl rfl rfl ?_
    refine pl_call (a := [.ref q, .int (nI k)]) (rest := [.int (nI (fi f E k)), .ref o]) rfl rfl rfl (dy_secondIndex (f := f) (n := n) (N := N) (q := q) (E := E) (j := k) (hV) (by omega)) (fun v25 M26 q27 => ?_)
    obtain ⟨rfl, rfl⟩ := q27
    show pl _ _ _ (169, [(0, .ref o), (1, .int (nI k))], [.int (nI (se f E k)), .int (nI (fi f E k)), .ref o], M) _
    refine pl_call (a := [.ref o, .int (nI (fi f E k)), .int (nI (se f E k))]) (rest := []) rfl rfl rfl (dk_isHandle (f := f) (n := n) (N := N) (q := q) (E := E) (o := o) (vd := vd) (mj := mj) (d := (fi f E k)) (e := (se f E k)) h_o (hV) (hmj) (fi_lt _ _ _) (se_lt _ _ _)) (fun v28 M29 q30 => ?_)
    obtain ⟨rfl, rfl⟩ := q30
    show pl _ _ _ (172, [(0, .ref o), (1, .int (nI k))], [.int (nI (hdlN f n E mj (fi f E k) (se f E k)))], M) _
    refine ps_if (S1 := (179, [(0, .ref o), (1, .int (nI k))], [], M)) (S2 := (175, [(0, .ref o), (1, .int (nI k))], [], M)) rfl rfl rfl (fun c_172 => ?_) (fun c_172 => ?_)
    · have c_172 : (nI (hdlN f n E mj (fi f E k) (se f E k))) = 0 := of_decide_eq_true c_172
      have n_172 : hdlN f n E mj (fi f E k) (se f E k) = 0 := (eq_nI (p := hdlN f n E mj (fi f E k) (se f E k)) (n := 0) (Nat.lt_trans (le1_hdl _ _ _ _ _ _) (by decide)) (by decide)).mp c_172
      refine ps_st (S' := (181, [], [.int 13], M)) rfl rfl rfl ?_
      exact ps_ret rfl rfl (⟨congrArg (fun x => some (Value.int (nI x))) (show 13 = brkN f n E mj k from by
          unfold brkN
          first | ((repeat first | rw [if_pos (by omega)] | rw [if_neg (by omega)]) <;> first | rfl | omega) | ((repeat' split) <;> first | rfl | (exfalso; omega) | omega)), rfl⟩)
    · have c_172 : ¬ ((nI (hdlN f n E mj (fi f E k) (se f E k))) = 0) := of_decide_eq_false c_172
      have n_172 : ¬ (hdlN f n E mj (fi f E k) (se f E k) = 0) := fun h9 => c_172 ((eq_nI (p := hdlN f n E mj (fi f E k) (se f E k)) (n := 0) (Nat.lt_trans (le1_hdl _ _ _ _ _ _) (by decide)) (by decide)).mpr h9)
      refine ps_st (S' := (176, [(0, .ref o), (1, .int (nI k))], [.int 0], M)) rfl rfl rfl ?_
      refine ps_st (S' := (181, [], [.int 0], M)) rfl rfl rfl ?_
      exact ps_ret rfl rfl (⟨congrArg (fun x => some (Value.int (nI x))) (show 0 = brkN f n E mj k from by
          unfold brkN
          first | ((repeat first | rw [if_pos (by omega)] | rw [if_neg (by omega)]) <;> first | rfl | omega) | ((repeat' split) <;> first | rfl | (exfalso; omega) | omega)), rfl⟩)
  · show pl _ _ _ (182, [(0, .ref o), (1, .int (nI k))], [], M) _
    have m_8 := sw_nat (t := tg f E k) (Nat.lt_trans (tg_lt _ _ _) (by decide)) et_8
    simp at m_8
    refine ps_st (S' := (183, [(0, .ref o), (1, .int (nI k))], [.ref o], M)) rfl rfl rfl ?_
    refine ps_get (S' := (186, [(0, .ref o), (1, .int (nI k))], [.ref q], M)) rfl h_o rfl rfl ?_
    refine ps_st (S' := (187, [(0, .ref o), (1, .int (nI k))], [.ref o, .ref q], M)) rfl rfl rfl ?_
    refine ps_get (S' := (190, [(0, .ref o), (1, .int (nI k))], [.ref q, .ref q], M)) rfl h_o rfl rfl ?_
    refine ps_st (S' := (191, [(0, .ref o), (1, .int (nI k))], [.int (nI k), .ref q, .ref q], M)) rfl rfl rfl ?_
    refine pl_call (a := [.ref q, .int (nI k)]) (rest := [.ref q]) rfl rfl rfl (dy_firstIndex (f := f) (n := n) (N := N) (q := q) (E := E) (j := k) (hV) (by omega)) (fun v31 M32 q33 => ?_)
    obtain ⟨rfl, rfl⟩ := q33
    show pl _ _ _ (194, [(0, .ref o), (1, .int (nI k))], [.int (nI (fi f E k)), .ref q], M) _
    refine pl_call (a := [.ref q, .int (nI (fi f E k))]) (rest := []) rfl rfl rfl (dy_isMethodDescriptor (f := f) (n := n) (N := N) (q := q) (E := E) (j := (fi f E k)) (hV) (fi_lt _ _ _)) (fun v34 M35 q36 => ?_)
    obtain ⟨rfl, rfl⟩ := q36
    show pl _ _ _ (197, [(0, .ref o), (1, .int (nI k))], [.int (nI (mthN (tX f n E (fi f E k))))], M) _
    refine ps_if (S1 := (204, [(0, .ref o), (1, .int (nI k))], [], M)) (S2 := (200, [(0, .ref o), (1, .int (nI k))], [], M)) rfl rfl rfl (fun c_197 => ?_) (fun c_197 => ?_)
    · have c_197 : (nI (mthN (tX f n E (fi f E k)))) = 0 := of_decide_eq_true c_197
      have n_197 : mthN (tX f n E (fi f E k)) = 0 := (eq_nI (p := mthN (tX f n E (fi f E k))) (n := 0) (Nat.lt_trans (le1_mth _) (by decide)) (by decide)).mp c_197
      refine ps_st (S' := (206, [], [.int 14], M)) rfl rfl rfl ?_
      exact ps_ret rfl rfl (⟨congrArg (fun x => some (Value.int (nI x))) (show 14 = brkN f n E mj k from by
          unfold brkN
          first | ((repeat first | rw [if_pos (by omega)] | rw [if_neg (by omega)]) <;> first | rfl | omega) | ((repeat' split) <;> first | rfl | (exfalso; omega) | omega)), rfl⟩)
    · have c_197 : ¬ ((nI (mthN (tX f n E (fi f E k)))) = 0) := of_decide_eq_false c_197
      have n_197 : ¬ (mthN (tX f n E (fi f E k)) = 0) := fun h9 => c_197 ((eq_nI (p := mthN (tX f n E (fi f E k))) (n := 0) (Nat.lt_trans (le1_mth _) (by decide)) (by decide)).mpr h9)
      refine ps_st (S' := (201, [(0, .ref o), (1, .int (nI k))], [.int 0], M)) rfl rfl rfl ?_
      refine ps_st (S' := (206, [], [.int 0], M)) rfl rfl rfl ?_
      exact ps_ret rfl rfl (⟨congrArg (fun x => some (Value.int (nI x))) (show 0 = brkN f n E mj k from by
          unfold brkN
          first | ((repeat first | rw [if_pos (by omega)] | rw [if_neg (by omega)]) <;> first | rfl | omega) | ((repeat' split) <;> first | rfl | (exfalso; omega) | omega)), rfl⟩)
  · show pl _ _ _ (207, [(0, .ref o), (1, .int (nI k))], [], M) _
    have m_8 := sw_nat (t := tg f E k) (Nat.lt_trans (tg_lt _ _ _) (by decide)) et_8
    simp at m_8
    refine ps_st (S' := (208, [(0, .ref o), (1, .int (nI k))], [.ref o], M)) rfl rfl rfl ?_
    refine ps_get (S' := (211, [(0, .ref o), (1, .int (nI k))], [.ref q], M)) rfl h_o rfl rfl ?_
    refine ps_st (S' := (212, [(0, .ref o), (1, .int (nI k))], [.ref o, .ref q], M)) rfl rfl rfl ?_
    refine ps_get (S' := (215, [(0, .ref o), (1, .int (nI k))], [.ref q, .ref q], M)) rfl h_o rfl rfl ?_
    refine ps_st (S' := (216, [(0, .ref o), (1, .int (nI k))], [.int (nI k), .ref q, .ref q], M)) rfl rfl rfl ?_
    refine pl_call (a := [.ref q, .int (nI k)]) (rest := [.ref q]) rfl rfl rfl (dy_descriptorOf (f := f) (n := n) (N := N) (q := q) (E := E) (j := k) (hV) (by omega)) (fun v37 M38 q39 => ?_)
    obtain ⟨rfl, rfl⟩ := q39
    show pl _ _ _ (219, [(0, .ref o), (1, .int (nI k))], [.int (nI (se f E (se f E k))), .ref q], M) _
    refine pl_call (a := [.ref q, .int (nI (se f E (se f E k)))]) (rest := []) rfl rfl rfl (dy_isFieldDescriptor (f := f) (n := n) (N := N) (q := q) (E := E) (j := (se f E (se f E k))) (hV) (se_lt _ _ _)) (fun v40 M41 q42 => ?_)
    obtain ⟨rfl, rfl⟩ := q42
    show pl _ _ _ (222, [(0, .ref o), (1, .int (nI k))], [.int (nI (fldN (tX f n E (se f E (se f E k)))))], M) _
    refine ps_if (S1 := (247, [], [], M)) (S2 := (225, [(0, .ref o), (1, .int (nI k))], [], M)) rfl rfl rfl (fun c_222 => ?_) (fun c_222 => ?_)
    · have c_222 : (nI (fldN (tX f n E (se f E (se f E k))))) = 0 := of_decide_eq_true c_222
      have n_222 : fldN (tX f n E (se f E (se f E k))) = 0 := (eq_nI (p := fldN (tX f n E (se f E (se f E k)))) (n := 0) (Nat.lt_trans (le1_fld _) (by decide)) (by decide)).mp c_222
      refine ps_st (S' := (249, [], [.int 14], M)) rfl rfl rfl ?_
      exact ps_ret rfl rfl (⟨congrArg (fun x => some (Value.int (nI x))) (show 14 = brkN f n E mj k from by
          unfold brkN
          first | ((repeat first | rw [if_pos (by omega)] | rw [if_neg (by omega)]) <;> first | rfl | omega) | ((repeat' split) <;> first | rfl | (exfalso; omega) | omega)), rfl⟩)
    · have c_222 : ¬ ((nI (fldN (tX f n E (se f E (se f E k))))) = 0) := of_decide_eq_false c_222
      have n_222 : ¬ (fldN (tX f n E (se f E (se f E k))) = 0) := fun h9 => c_222 ((eq_nI (p := fldN (tX f n E (se f E (se f E k)))) (n := 0) (Nat.lt_trans (le1_fld _) (by decide)) (by decide)).mpr h9)
      refine ps_st (S' := (226, [(0, .ref o), (1, .int (nI k))], [.ref o], M)) rfl rfl rfl ?_
      refine ps_get (S' := (229, [(0, .ref o), (1, .int (nI k))], [.ref q], M)) rfl h_o rfl rfl ?_
      refine ps_st (S' := (230, [(0, .ref o), (1, .int (nI k))], [.ref o, .ref q], M)) rfl rfl rfl ?_
      refine ps_get (S' := (233, [(0, .ref o), (1, .int (nI k))], [.ref q, .ref q], M)) rfl h_o rfl rfl ?_
      refine ps_st (S' := (234, [(0, .ref o), (1, .int (nI k))], [.int (nI k), .ref q, .ref q], M)) rfl rfl rfl ?_
      refine pl_call (a := [.ref q, .int (nI k)]) (rest := [.ref q]) rfl rfl rfl (dy_nameOf (f := f) (n := n) (N := N) (q := q) (E := E) (j := k) (hV) (by omega)) (fun v43 M44 q45 => ?_)
      obtain ⟨rfl, rfl⟩ := q45
      show pl _ _ _ (237, [(0, .ref o), (1, .int (nI k))], [.int (nI (fi f E (se f E k))), .ref q], M) _
      refine pl_call (a := [.ref q, .int (nI (fi f E (se f E k)))]) (rest := []) rfl rfl rfl (dy_hasAngle (f := f) (n := n) (N := N) (q := q) (E := E) (j := (fi f E (se f E k))) (hV) (fi_lt _ _ _)) (fun v46 M47 q48 => ?_)
      obtain ⟨rfl, rfl⟩ := q48
      show pl _ _ _ (240, [(0, .ref o), (1, .int (nI k))], [.int (nI (angN (tX f n E (fi f E (se f E k)))))], M) _
      refine ps_if (S1 := (247, [], [], M)) (S2 := (243, [(0, .ref o), (1, .int (nI k))], [], M)) rfl rfl rfl (fun c_240 => ?_) (fun c_240 => ?_)
      · have c_240 : ¬ (nI (angN (tX f n E (fi f E (se f E k))))) = 0 := of_decide_eq_true c_240
        have n_240 : ¬ (angN (tX f n E (fi f E (se f E k))) = 0) := fun h9 => c_240 ((eq_nI (p := angN (tX f n E (fi f E (se f E k)))) (n := 0) (Nat.lt_trans (le1_ang _) (by decide)) (by decide)).mpr h9)
        refine ps_st (S' := (249, [], [.int 14], M)) rfl rfl rfl ?_
        exact ps_ret rfl rfl (⟨congrArg (fun x => some (Value.int (nI x))) (show 14 = brkN f n E mj k from by
            unfold brkN
            first | ((repeat first | rw [if_pos (by omega)] | rw [if_neg (by omega)]) <;> first | rfl | omega) | ((repeat' split) <;> first | rfl | (exfalso; omega) | omega)), rfl⟩)
      · have c_240 : ¬ (¬ (nI (angN (tX f n E (fi f E (se f E k))))) = 0) := of_decide_eq_false c_240
        have n_240 : angN (tX f n E (fi f E (se f E k))) = 0 := (eq_nI (p := angN (tX f n E (fi f E (se f E k)))) (n := 0) (Nat.lt_trans (le1_ang _) (by decide)) (by decide)).mp (Decidable.not_not.mp c_240)
        refine ps_st (S' := (244, [(0, .ref o), (1, .int (nI k))], [.int 0], M)) rfl rfl rfl ?_
        refine ps_st (S' := (249, [], [.int 0], M)) rfl rfl rfl ?_
        exact ps_ret rfl rfl (⟨congrArg (fun x => some (Value.int (nI x))) (show 0 = brkN f n E mj k from by
            unfold brkN
            first | ((repeat first | rw [if_pos (by omega)] | rw [if_neg (by omega)]) <;> first | rfl | omega) | ((repeat' split) <;> first | rfl | (exfalso; omega) | omega)), rfl⟩)
  · show pl _ _ _ (250, [(0, .ref o), (1, .int (nI k))], [], M) _
    have m_8 := sw_nat (t := tg f E k) (Nat.lt_trans (tg_lt _ _ _) (by decide)) et_8
    simp at m_8
    refine ps_st (S' := (251, [(0, .ref o), (1, .int (nI k))], [.ref o], M)) rfl rfl rfl ?_
    refine ps_get (S' := (254, [(0, .ref o), (1, .int (nI k))], [.ref q], M)) rfl h_o rfl rfl ?_
    refine ps_st (S' := (255, [(0, .ref o), (1, .int (nI k))], [.ref o, .ref q], M)) rfl rfl rfl ?_
    refine ps_get (S' := (258, [(0, .ref o), (1, .int (nI k))], [.ref q, .ref q], M)) rfl h_o rfl rfl ?_
    refine ps_st (S' := (259, [(0, .ref o), (1, .int (nI k))], [.int (nI k), .ref q, .ref q], M)) rfl rfl rfl ?_
    refine pl_call (a := [.ref q, .int (nI k)]) (rest := [.ref q]) rfl rfl rfl (dy_descriptorOf (f := f) (n := n) (N := N) (q := q) (E := E) (j := k) (hV) (by omega)) (fun v49 M50 q51 => ?_)
    obtain ⟨rfl, rfl⟩ := q51
    show pl _ _ _ (262, [(0, .ref o), (1, .int (nI k))], [.int (nI (se f E (se f E k))), .ref q], M) _
    refine pl_call (a := [.ref q, .int (nI (se f E (se f E k)))]) (rest := []) rfl rfl rfl (dy_isMethodDescriptor (f := f) (n := n) (N := N) (q := q) (E := E) (j := (se f E (se f E k))) (hV) (se_lt _ _ _)) (fun v52 M53 q54 => ?_)
    obtain ⟨rfl, rfl⟩ := q54
    show pl _ _ _ (265, [(0, .ref o), (1, .int (nI k))], [.int (nI (mthN (tX f n E (se f E (se f E k)))))], M) _
    refine ps_if (S1 := (290, [], [], M)) (S2 := (268, [(0, .ref o), (1, .int (nI k))], [], M)) rfl rfl rfl (fun c_265 => ?_) (fun c_265 => ?_)
    · have c_265 : (nI (mthN (tX f n E (se f E (se f E k))))) = 0 := of_decide_eq_true c_265
      have n_265 : mthN (tX f n E (se f E (se f E k))) = 0 := (eq_nI (p := mthN (tX f n E (se f E (se f E k)))) (n := 0) (Nat.lt_trans (le1_mth _) (by decide)) (by decide)).mp c_265
      refine ps_st (S' := (292, [], [.int 14], M)) rfl rfl rfl ?_
      exact ps_ret rfl rfl (⟨congrArg (fun x => some (Value.int (nI x))) (show 14 = brkN f n E mj k from by
          unfold brkN
          first | ((repeat first | rw [if_pos (by omega)] | rw [if_neg (by omega)]) <;> first | rfl | omega) | ((repeat' split) <;> first | rfl | (exfalso; omega) | omega)), rfl⟩)
    · have c_265 : ¬ ((nI (mthN (tX f n E (se f E (se f E k))))) = 0) := of_decide_eq_false c_265
      have n_265 : ¬ (mthN (tX f n E (se f E (se f E k))) = 0) := fun h9 => c_265 ((eq_nI (p := mthN (tX f n E (se f E (se f E k)))) (n := 0) (Nat.lt_trans (le1_mth _) (by decide)) (by decide)).mpr h9)
      refine ps_st (S' := (269, [(0, .ref o), (1, .int (nI k))], [.ref o], M)) rfl rfl rfl ?_
      refine ps_get (S' := (272, [(0, .ref o), (1, .int (nI k))], [.ref q], M)) rfl h_o rfl rfl ?_
      refine ps_st (S' := (273, [(0, .ref o), (1, .int (nI k))], [.ref o, .ref q], M)) rfl rfl rfl ?_
      refine ps_get (S' := (276, [(0, .ref o), (1, .int (nI k))], [.ref q, .ref q], M)) rfl h_o rfl rfl ?_
      refine ps_st (S' := (277, [(0, .ref o), (1, .int (nI k))], [.int (nI k), .ref q, .ref q], M)) rfl rfl rfl ?_
      refine pl_call (a := [.ref q, .int (nI k)]) (rest := [.ref q]) rfl rfl rfl (dy_nameOf (f := f) (n := n) (N := N) (q := q) (E := E) (j := k) (hV) (by omega)) (fun v55 M56 q57 => ?_)
      obtain ⟨rfl, rfl⟩ := q57
      show pl _ _ _ (280, [(0, .ref o), (1, .int (nI k))], [.int (nI (fi f E (se f E k))), .ref q], M) _
      refine pl_call (a := [.ref q, .int (nI (fi f E (se f E k)))]) (rest := []) rfl rfl rfl (dy_hasAngle (f := f) (n := n) (N := N) (q := q) (E := E) (j := (fi f E (se f E k))) (hV) (fi_lt _ _ _)) (fun v58 M59 q60 => ?_)
      obtain ⟨rfl, rfl⟩ := q60
      show pl _ _ _ (283, [(0, .ref o), (1, .int (nI k))], [.int (nI (angN (tX f n E (fi f E (se f E k)))))], M) _
      refine ps_if (S1 := (290, [], [], M)) (S2 := (286, [(0, .ref o), (1, .int (nI k))], [], M)) rfl rfl rfl (fun c_283 => ?_) (fun c_283 => ?_)
      · have c_283 : ¬ (nI (angN (tX f n E (fi f E (se f E k))))) = 0 := of_decide_eq_true c_283
        have n_283 : ¬ (angN (tX f n E (fi f E (se f E k))) = 0) := fun h9 => c_283 ((eq_nI (p := angN (tX f n E (fi f E (se f E k)))) (n := 0) (Nat.lt_trans (le1_ang _) (by decide)) (by decide)).mpr h9)
        refine ps_st (S' := (292, [], [.int 14], M)) rfl rfl rfl ?_
        exact ps_ret rfl rfl (⟨congrArg (fun x => some (Value.int (nI x))) (show 14 = brkN f n E mj k from by
            unfold brkN
            first | ((repeat first | rw [if_pos (by omega)] | rw [if_neg (by omega)]) <;> first | rfl | omega) | ((repeat' split) <;> first | rfl | (exfalso; omega) | omega)), rfl⟩)
      · have c_283 : ¬ (¬ (nI (angN (tX f n E (fi f E (se f E k))))) = 0) := of_decide_eq_false c_283
        have n_283 : angN (tX f n E (fi f E (se f E k))) = 0 := (eq_nI (p := angN (tX f n E (fi f E (se f E k)))) (n := 0) (Nat.lt_trans (le1_ang _) (by decide)) (by decide)).mp (Decidable.not_not.mp c_283)
        refine ps_st (S' := (287, [(0, .ref o), (1, .int (nI k))], [.int 0], M)) rfl rfl rfl ?_
        refine ps_st (S' := (292, [], [.int 0], M)) rfl rfl rfl ?_
        exact ps_ret rfl rfl (⟨congrArg (fun x => some (Value.int (nI x))) (show 0 = brkN f n E mj k from by
            unfold brkN
            first | ((repeat first | rw [if_pos (by omega)] | rw [if_neg (by omega)]) <;> first | rfl | omega) | ((repeat' split) <;> first | rfl | (exfalso; omega) | omega)), rfl⟩)
  · show pl _ _ _ (293, [(0, .ref o), (1, .int (nI k))], [], M) _
    have m_8 := sw_nat (t := tg f E k) (Nat.lt_trans (tg_lt _ _ _) (by decide)) et_8
    simp at m_8
    refine ps_st (S' := (294, [(0, .ref o), (1, .int (nI k))], [.int 0], M)) rfl rfl rfl ?_
    exact ps_ret rfl rfl (⟨congrArg (fun x => some (Value.int (nI x))) (show 0 = brkN f n E mj k from by
        unfold brkN
        first | ((repeat first | rw [if_pos (by omega)] | rw [if_neg (by omega)]) <;> first | rfl | omega) | ((repeat' split) <;> first | rfl | (exfalso; omega) | omega)), rfl⟩)
theorem dk_wrong {g : xe_G} {M : mi_H} {vd : Nat} {ru wa x1 x2 : Int32} (h_vd : M.1 vd = some (ob 10 [.int ru, .int wa]))  : pt (mT g) 172 [.ref vd, .int x1, .int x2] M (fun v M' => (v = some (.int 0) ∧ M'.1 vd = some (ob 10 [.int x1, .int x2]) ∧ fm [vd] M M')) := dx_wrong h_vd
set_option maxHeartbeats 1000000 in
theorem dk_entriesHold {g : xe_G} {M : mi_H} {f : Nat → Int32} {n N q : Nat} {E : List (Nat × Nat)} {o vd mj : Nat} {ru wa : Int32} (h_o : M.1 o = some (ob 8 [.ref q, .int (nI mj), .ref vd])) (h_vd : M.1 vd = some (ob 10 [.int ru, .int wa])) (hmj : mj < 65536) (hV : PV g f n N E q M) : pt (mT g) 146 [.ref o] M (fun v M' => ((chkP f n E mj (N - 1) 1 = none) ∧ v = some (.int 1) ∧ M'.1 vd = some (ob 10 [.int ru, .int wa]) ∧ fm [vd] M M') ∨ (∃ (e : Nat × Nat), (chkP f n E mj (N - 1) 1 = some e) ∧ v = some (.int 0) ∧ M'.1 vd = some (ob 10 [.int (nI e.1), .int (nI e.2)]) ∧ fm [vd] M M')) := by
  refine pt_in (b := mb_146 g) rfl (fun kf => ?_)
  show pl (mT g) kf (mb_146 g).2 (0, [(0, .ref o)], [], M) _
  have hF : fm [vd] M M := fm.rf
  have hV0 := hV
  obtain ⟨hL, H, m, qq, F, cc, hP, hT, hB, hb, hVF, hS⟩ := hV0
  have h_q := hP.1
  have LL : ∀ (kf : Nat), (∀ (k : Nat) (M1 : mi_H), (M1.1 o = some (ob 8 [.ref q, .int (nI mj), .ref vd])) → (M1.1 vd = some (ob 10 [.int ru, .int wa])) → (M1.1 q = some (ob 7 [.int (nI N), .ref (qq 1), .ref (qq 2), .ref (qq 3), .ref (qq 4), .ref (qq 5), .ref (qq 6), .int cc])) → (PV g f n N E q M1) → (fm [vd] M M1) → (1 ≤ k ∧ (k ≤ N ∨ k = 1)) → (chkP f n E mj (N - k) k = chkP f n E mj (N - 1) 1) →  pl (mT g) kf (mb_146 g).2 (2, [(0, .ref o), (1, .int (nI k))], [], M1) (fun v M' => ((chkP f n E mj (N - 1) 1 = none) ∧ v = some (.int 1) ∧ M'.1 vd = some (ob 10 [.int ru, .int wa]) ∧ fm [vd] M M') ∨ (∃ (e : Nat × Nat), (chkP f n E mj (N - 1) 1 = some e) ∧ v = some (.int 0) ∧ M'.1 vd = some (ob 10 [.int (nI e.1), .int (nI e.2)]) ∧ fm [vd] M M'))) := by
    intro kf
    induction kf with
    | zero => exact (by intros; exact pl_0)
    | succ kf ih =>
      intro k M1 hl_o hl_vd hl_q hV1 hF1 hk hs
      refine ps_st1 (S' := (3, [(0, .ref o), (1, .int (nI k))], [.int (nI k)], M1)) rfl rfl rfl ?_
      refine ps_st (S' := (4, [(0, .ref o), (1, .int (nI k))], [.ref o, .int (nI k)], M1)) rfl rfl rfl ?_
      refine ps_get (S' := (7, [(0, .ref o), (1, .int (nI k))], [.ref q, .int (nI k)], M1)) rfl hl_o rfl rfl ?_
      refine ps_get (S' := (10, [(0, .ref o), (1, .int (nI k))], [.int (nI N), .int (nI k)], M1)) rfl hl_q rfl rfl ?_
      refine ps_if2 (S1 := (59, [(0, .ref o), (1, .int (nI k))], [], M1)) (S2 := (13, [(0, .ref o), (1, .int (nI k))], [], M1)) rfl rfl rfl (fun c_10 => ?_) (fun c_10 => ?_)
      · have c_10 : (nI N) ≤ (nI k) := of_decide_eq_true c_10
        have n_10 : N ≤ k := (le_nI (p := N) (n := k) (by omega) (by omega)).mp c_10
        refine ps_st (S' := (60, [(0, .ref o), (1, .int (nI k))], [.int 1], M1)) rfl rfl rfl ?_
        exact ps_ret rfl rfl (Or.inl ⟨by rw [← hs, show N - k = 0 by omega]; rfl, rfl, hl_vd, hF1⟩)
      · have c_10 : ¬ ((nI N) ≤ (nI k)) := of_decide_eq_false c_10
        have n_10 : ¬ (N ≤ k) := fun h9 => c_10 ((le_nI (p := N) (n := k) (by omega) (by omega)).mpr h9)
        refine ps_st (S' := (14, [(0, .ref o), (1, .int (nI k))], [.ref o], M1)) rfl rfl rfl ?_
        refine ps_st (S' := (15, [(0, .ref o), (1, .int (nI k))], [.int (nI k), .ref o], M1)) rfl rfl rfl ?_
        refine pl_call (a := [.ref o, .int (nI k)]) (rest := []) rfl rfl rfl (dk_linksHold (f := f) (n := n) (N := N) (q := q) (E := E) (o := o) (vd := vd) (mj := mj) (k := k) hl_o (hV1) (hmj) (by omega)) (fun v1 M2 q3 => ?_)
        obtain ⟨rfl, rfl⟩ := q3
        show pl _ _ _ (18, [(0, .ref o), (1, .int (nI k))], [.int (nI (lnkN f E k))], M1) _
        refine ps_if (S1 := (29, [(0, .ref o), (1, .int (nI k))], [], M1)) (S2 := (21, [(0, .ref o), (1, .int (nI k))], [], M1)) rfl rfl rfl (fun c_18 => ?_) (fun c_18 => ?_)
        · have c_18 : (nI (lnkN f E k)) = 0 := of_decide_eq_true c_18
          have n_18 : lnkN f E k = 0 := (eq_nI (p := lnkN f E k) (n := 0) (Nat.lt_trans (le1_lnk _ _ _) (by decide)) (by decide)).mp c_18
          refine ps_st (S' := (31, [(0, .ref o), (1, .int (nI k))], [.int 9], M1)) rfl rfl rfl ?_
          refine ps_st (S' := (32, [(2, .int 9), (0, .ref o), (1, .int (nI k))], [], M1)) rfl rfl rfl ?_
          refine ps_st (S' := (33, [(2, .int 9), (0, .ref o), (1, .int (nI k))], [.int 9], M1)) rfl rfl rfl ?_
          refine ps_if (S1 := (53, [(2, .int 9), (0, .ref o), (1, .int (nI k))], [], M1)) (S2 := (36, [(2, .int 9), (0, .ref o), (1, .int (nI k))], [], M1)) rfl rfl rfl (fun c_33 => ?_) (fun c_33 => ?_)
          · exact absurd (of_decide_eq_true c_33) (by decide)
          refine ps_st (S' := (37, [(2, .int 9), (0, .ref o), (1, .int (nI k))], [.ref o], M1)) rfl rfl rfl ?_
          refine ps_get (S' := (40, [(2, .int 9), (0, .ref o), (1, .int (nI k))], [.ref vd], M1)) rfl hl_o rfl rfl ?_
          refine ps_st (S' := (41, [(2, .int 9), (0, .ref o), (1, .int (nI k))], [.int 9, .ref vd], M1)) rfl rfl rfl ?_
          refine ps_st (S' := (42, [(2, .int 9), (0, .ref o), (1, .int (nI k))], [.ref o, .int 9, .ref vd], M1)) rfl rfl rfl ?_
          refine ps_get (S' := (45, [(2, .int 9), (0, .ref o), (1, .int (nI k))], [.ref q, .int 9, .ref vd], M1)) rfl hl_o rfl rfl ?_
          refine ps_st (S' := (46, [(2, .int 9), (0, .ref o), (1, .int (nI k))], [.int (nI k), .ref q, .int 9, .ref vd], M1)) rfl rfl rfl ?_
          have ht9 := lnk_t (f := f) (E := E) (k := k) (by omega)
          refine pl_call (a := [.ref q, .int (nI k)]) (rest := [.int 9, .ref vd]) rfl rfl rfl (dy_tagPlace (f := f) (n := n) (N := N) (q := q) (E := E) (j := k) (p := (tp E k)) (hV1) (by omega) (tp_of ht9) (ht9)) (fun v4 M5 q6 => ?_)
          obtain ⟨rfl, rfl⟩ := q6
          show pl _ _ _ (49, [(2, .int 9), (0, .ref o), (1, .int (nI k))], [.int (nI ((tp E k))), .int 9, .ref vd], M1) _
          refine pl_call (a := [.ref vd, .int 9, .int (nI ((tp E k)))]) (rest := []) rfl rfl rfl (dk_wrong (vd := vd) (ru := ru) (wa := wa) (x1 := 9) (x2 := (nI ((tp E k)))) hl_vd) (fun v7 M8 q9 => ?_)
          obtain ⟨rfl, h10, f11⟩ := q9
          have h13 := (f11.1 o (nin1 (ob_ne hl_o hl_vd (by decide)))).trans hl_o
          have h14 := (f11.1 q (nin1 (ob_ne hl_q hl_vd (by decide)))).trans hl_q
          have hF15 := hF1.tr f11 (by simp)
          have hV16 := hV1.keep f11.gm (n7c hl_vd (by decide) (n7nil))
          show pl _ _ _ (52, [(2, .int 9), (0, .ref o), (1, .int (nI k))], [.int 0], M8) _
          exact ps_ret rfl rfl (Or.inr ⟨(9, tp E k), by
              rw [← hs, chkP_st (k := k) (by omega)]
              repeat' split
              all_goals first | rfl | (exfalso; omega), rfl, h10, hF15⟩)
        · have c_18 : ¬ ((nI (lnkN f E k)) = 0) := of_decide_eq_false c_18
          have n_18 : ¬ (lnkN f E k = 0) := fun h9 => c_18 ((eq_nI (p := lnkN f E k) (n := 0) (Nat.lt_trans (le1_lnk _ _ _) (by decide)) (by decide)).mpr h9)
          refine ps_st (S' := (22, [(0, .ref o), (1, .int (nI k))], [.ref o], M1)) rfl rfl rfl ?_
          refine ps_st (S' := (23, [(0, .ref o), (1, .int (nI k))], [.int (nI k), .ref o], M1)) rfl rfl rfl ?_
          refine pl_call (a := [.ref o, .int (nI k)]) (rest := []) rfl rfl rfl (dk_brokenRule (f := f) (n := n) (N := N) (q := q) (E := E) (o := o) (vd := vd) (mj := mj) (k := k) hl_o (hV1) (hmj) (by omega)) (fun v17 M18 q19 => ?_)
          obtain ⟨rfl, rfl⟩ := q19
          show pl _ _ _ (26, [(0, .ref o), (1, .int (nI k))], [.int (nI (brkN f n E mj k))], M1) _
          refine ps_st (S' := (31, [(0, .ref o), (1, .int (nI k))], [.int (nI (brkN f n E mj k))], M1)) rfl rfl rfl ?_
          refine ps_st (S' := (32, [(2, .int (nI (brkN f n E mj k))), (0, .ref o), (1, .int (nI k))], [], M1)) rfl rfl rfl ?_
          refine ps_st (S' := (33, [(2, .int (nI (brkN f n E mj k))), (0, .ref o), (1, .int (nI k))], [.int (nI (brkN f n E mj k))], M1)) rfl rfl rfl ?_
          refine ps_if (S1 := (53, [(2, .int (nI (brkN f n E mj k))), (0, .ref o), (1, .int (nI k))], [], M1)) (S2 := (36, [(2, .int (nI (brkN f n E mj k))), (0, .ref o), (1, .int (nI k))], [], M1)) rfl rfl rfl (fun c_33 => ?_) (fun c_33 => ?_)
          · have c_33 : (nI (brkN f n E mj k)) = 0 := of_decide_eq_true c_33
            have n_33 : brkN f n E mj k = 0 := (eq_nI (p := brkN f n E mj k) (n := 0) (Nat.lt_trans (le_brk _ _ _ _ _) (by decide)) (by decide)).mp c_33
            refine ps_st (S' := (56, [(1, .int ((nI k) + 1)), (2, .int (nI (brkN f n E mj k))), (0, .ref o)], [], M1)) rfl rfl rfl ?_
            rw [nI_add1 (p := k) (k := 1) (x := 1) rfl (by omega)]
            show pl _ _ _ (_, [(1, .int (nI (k + 1))), (2, .int (nI (brkN f n E mj k))), (0, .ref o)], [], M1) _
            refine ps_st (S' := (2, [(0, .ref o), (1, .int (nI (k + 1)))], [], M1)) rfl rfl rfl ?_
            exact ih (k + 1) M1 hl_o hl_vd hl_q hV1 hF1 (by omega) (by
                rw [← hs, chkP_st (k := k) (by omega), if_neg (by omega), if_pos (by omega)])
          · have c_33 : ¬ ((nI (brkN f n E mj k)) = 0) := of_decide_eq_false c_33
            have n_33 : ¬ (brkN f n E mj k = 0) := fun h9 => c_33 ((eq_nI (p := brkN f n E mj k) (n := 0) (Nat.lt_trans (le_brk _ _ _ _ _) (by decide)) (by decide)).mpr h9)
            refine ps_st (S' := (37, [(2, .int (nI (brkN f n E mj k))), (0, .ref o), (1, .int (nI k))], [.ref o], M1)) rfl rfl rfl ?_
            refine ps_get (S' := (40, [(2, .int (nI (brkN f n E mj k))), (0, .ref o), (1, .int (nI k))], [.ref vd], M1)) rfl hl_o rfl rfl ?_
            refine ps_st (S' := (41, [(2, .int (nI (brkN f n E mj k))), (0, .ref o), (1, .int (nI k))], [.int (nI (brkN f n E mj k)), .ref vd], M1)) rfl rfl rfl ?_
            refine ps_st (S' := (42, [(2, .int (nI (brkN f n E mj k))), (0, .ref o), (1, .int (nI k))], [.ref o, .int (nI (brkN f n E mj k)), .ref vd], M1)) rfl rfl rfl ?_
            refine ps_get (S' := (45, [(2, .int (nI (brkN f n E mj k))), (0, .ref o), (1, .int (nI k))], [.ref q, .int (nI (brkN f n E mj k)), .ref vd], M1)) rfl hl_o rfl rfl ?_
            refine ps_st (S' := (46, [(2, .int (nI (brkN f n E mj k))), (0, .ref o), (1, .int (nI k))], [.int (nI k), .ref q, .int (nI (brkN f n E mj k)), .ref vd], M1)) rfl rfl rfl ?_
            have ht9 := brk_t (f := f) (n := n) (E := E) (mj := mj) (k := k) (by omega)
            refine pl_call (a := [.ref q, .int (nI k)]) (rest := [.int (nI (brkN f n E mj k)), .ref vd]) rfl rfl rfl (dy_tagPlace (f := f) (n := n) (N := N) (q := q) (E := E) (j := k) (p := (tp E k)) (hV1) (by omega) (tp_of ht9) (ht9)) (fun v20 M21 q22 => ?_)
            obtain ⟨rfl, rfl⟩ := q22
            show pl _ _ _ (49, [(2, .int (nI (brkN f n E mj k))), (0, .ref o), (1, .int (nI k))], [.int (nI ((tp E k))), .int (nI (brkN f n E mj k)), .ref vd], M1) _
            refine pl_call (a := [.ref vd, .int (nI (brkN f n E mj k)), .int (nI ((tp E k)))]) (rest := []) rfl rfl rfl (dk_wrong (vd := vd) (ru := ru) (wa := wa) (x1 := (nI (brkN f n E mj k))) (x2 := (nI ((tp E k)))) hl_vd) (fun v23 M24 q25 => ?_)
            obtain ⟨rfl, h26, f27⟩ := q25
            have h29 := (f27.1 o (nin1 (ob_ne hl_o hl_vd (by decide)))).trans hl_o
            have h30 := (f27.1 q (nin1 (ob_ne hl_q hl_vd (by decide)))).trans hl_q
            have hF31 := hF1.tr f27 (by simp)
            have hV32 := hV1.keep f27.gm (n7c hl_vd (by decide) (n7nil))
            show pl _ _ _ (52, [(2, .int (nI (brkN f n E mj k))), (0, .ref o), (1, .int (nI k))], [.int 0], M24) _
            exact ps_ret rfl rfl (Or.inr ⟨(brkN f n E mj k, tp E k), by
                rw [← hs, chkP_st (k := k) (by omega)]
                repeat' split
                all_goals first | rfl | (exfalso; omega), rfl, h26, hF31⟩)
  refine ps_st (S' := (1, [(0, .ref o)], [.int 1], M)) rfl rfl rfl ?_
  refine ps_st (S' := (2, [(0, .ref o), (1, .int 1)], [], M)) rfl rfl rfl ?_
  exact (LL kf) (1) M h_o h_vd h_q hV hF (by omega) (rfl)
set_option maxHeartbeats 1000000 in
theorem dk_bootstrapsHold {g : xe_G} {M : mi_H} {f : Nat → Int32} {n N q : Nat} {E : List (Nat × Nat)} {o vd mj : Nat} {bc : Nat} {ru wa : Int32} (h_o : M.1 o = some (ob 8 [.ref q, .int (nI mj), .ref vd])) (h_vd : M.1 vd = some (ob 10 [.int ru, .int wa])) (hmj : mj < 65536) (hbc : bc < 65536) (hV : PV g f n N E q M) : pt (mT g) 144 [.ref o, .int (nI bc)] M (fun v M' => ((chkB f E bc (N - 1) 1 = none) ∧ v = some (.int 1) ∧ M'.1 vd = some (ob 10 [.int ru, .int wa]) ∧ fm [vd] M M') ∨ (∃ (e : Nat × Nat), (chkB f E bc (N - 1) 1 = some e) ∧ v = some (.int 0) ∧ M'.1 vd = some (ob 10 [.int (nI e.1), .int (nI e.2)]) ∧ fm [vd] M M')) := by
  refine pt_in (b := mb_144 g) rfl (fun kf => ?_)
  show pl (mT g) kf (mb_144 g).2 (0, [(0, .ref o), (1, .int (nI bc))], [], M) _
  have hF : fm [vd] M M := fm.rf
  have hV0 := hV
  obtain ⟨hL, H, m, qq, F, cc, hP, hT, hB, hb, hVF, hS⟩ := hV0
  have h_q := hP.1
  have LL : ∀ (kf : Nat), (∀ (k : Nat) (M1 : mi_H), (M1.1 o = some (ob 8 [.ref q, .int (nI mj), .ref vd])) → (M1.1 vd = some (ob 10 [.int ru, .int wa])) → (M1.1 q = some (ob 7 [.int (nI N), .ref (qq 1), .ref (qq 2), .ref (qq 3), .ref (qq 4), .ref (qq 5), .ref (qq 6), .int cc])) → (PV g f n N E q M1) → (fm [vd] M M1) → (1 ≤ k ∧ (k ≤ N ∨ k = 1)) → (chkB f E bc (N - k) k = chkB f E bc (N - 1) 1) →  pl (mT g) kf (mb_144 g).2 (2, [(0, .ref o), (1, .int (nI bc)), (2, .int (nI k))], [], M1) (fun v M' => ((chkB f E bc (N - 1) 1 = none) ∧ v = some (.int 1) ∧ M'.1 vd = some (ob 10 [.int ru, .int wa]) ∧ fm [vd] M M') ∨ (∃ (e : Nat × Nat), (chkB f E bc (N - 1) 1 = some e) ∧ v = some (.int 0) ∧ M'.1 vd = some (ob 10 [.int (nI e.1), .int (nI e.2)]) ∧ fm [vd] M M'))) := by
    intro kf
    induction kf with
    | zero => exact (by intros; exact pl_0)
    | succ kf ih =>
      intro k M1 hl_o hl_vd hl_q hV1 hF1 hk hs
      refine ps_st1 (S' := (3, [(0, .ref o), (1, .int (nI bc)), (2, .int (nI k))], [.int (nI k)], M1)) rfl rfl rfl ?_
      refine ps_st (S' := (4, [(0, .ref o), (1, .int (nI bc)), (2, .int (nI k))], [.ref o, .int (nI k)], M1)) rfl rfl rfl ?_
      refine ps_get (S' := (7, [(0, .ref o), (1, .int (nI bc)), (2, .int (nI k))], [.ref q, .int (nI k)], M1)) rfl hl_o rfl rfl ?_
      refine ps_get (S' := (10, [(0, .ref o), (1, .int (nI bc)), (2, .int (nI k))], [.int (nI N), .int (nI k)], M1)) rfl hl_q rfl rfl ?_
      refine ps_if2 (S1 := (70, [(0, .ref o), (1, .int (nI bc)), (2, .int (nI k))], [], M1)) (S2 := (13, [(0, .ref o), (1, .int (nI bc)), (2, .int (nI k))], [], M1)) rfl rfl rfl (fun c_10 => ?_) (fun c_10 => ?_)
      · have c_10 : (nI N) ≤ (nI k) := of_decide_eq_true c_10
        have n_10 : N ≤ k := (le_nI (p := N) (n := k) (by omega) (by omega)).mp c_10
        refine ps_st (S' := (71, [(0, .ref o), (1, .int (nI bc)), (2, .int (nI k))], [.int 1], M1)) rfl rfl rfl ?_
        exact ps_ret rfl rfl (Or.inl ⟨by rw [← hs, show N - k = 0 by omega]; rfl, rfl, hl_vd, hF1⟩)
      · have c_10 : ¬ ((nI N) ≤ (nI k)) := of_decide_eq_false c_10
        have n_10 : ¬ (N ≤ k) := fun h9 => c_10 ((le_nI (p := N) (n := k) (by omega) (by omega)).mpr h9)
        refine ps_st (S' := (14, [(0, .ref o), (1, .int (nI bc)), (2, .int (nI k))], [.ref o], M1)) rfl rfl rfl ?_
        refine ps_get (S' := (17, [(0, .ref o), (1, .int (nI bc)), (2, .int (nI k))], [.ref q], M1)) rfl hl_o rfl rfl ?_
        refine ps_st (S' := (18, [(0, .ref o), (1, .int (nI bc)), (2, .int (nI k))], [.int (nI k), .ref q], M1)) rfl rfl rfl ?_
        refine pl_call (a := [.ref q, .int (nI k)]) (rest := []) rfl rfl rfl (dy_tagOf (f := f) (n := n) (N := N) (q := q) (E := E) (j := k) (hV1) (by omega)) (fun v1 M2 q3 => ?_)
        obtain ⟨rfl, rfl⟩ := q3
        show pl _ _ _ (21, [(0, .ref o), (1, .int (nI bc)), (2, .int (nI k))], [.int (nI (tg f E k))], M1) _
        refine ps_st (S' := (22, [(3, .int (nI (tg f E k))), (0, .ref o), (1, .int (nI bc)), (2, .int (nI k))], [], M1)) rfl rfl rfl ?_
        refine ps_st (S' := (23, [(3, .int (nI (tg f E k))), (0, .ref o), (1, .int (nI bc)), (2, .int (nI k))], [.int (nI (tg f E k))], M1)) rfl rfl rfl ?_
        refine ps_st (S' := (25, [(3, .int (nI (tg f E k))), (0, .ref o), (1, .int (nI bc)), (2, .int (nI k))], [.int 17, .int (nI (tg f E k))], M1)) rfl rfl rfl ?_
        refine ps_if2 (S1 := (34, [(0, .ref o), (1, .int (nI bc)), (2, .int (nI k))], [], M1)) (S2 := (28, [(3, .int (nI (tg f E k))), (0, .ref o), (1, .int (nI bc)), (2, .int (nI k))], [], M1)) rfl rfl rfl (fun c_25 => ?_) (fun c_25 => ?_)
        · have c_25 : (nI (tg f E k)) = 17 := of_decide_eq_true c_25
          have n_25 : tg f E k = 17 := (eq_nI (p := tg f E k) (n := 17) (Nat.lt_trans (tg_lt _ _ _) (by decide)) (by decide)).mp c_25
          refine ps_st (S' := (35, [(0, .ref o), (1, .int (nI bc)), (2, .int (nI k))], [.ref o], M1)) rfl rfl rfl ?_
          refine ps_get (S' := (38, [(0, .ref o), (1, .int (nI bc)), (2, .int (nI k))], [.ref q], M1)) rfl hl_o rfl rfl ?_
          refine ps_st (S' := (39, [(0, .ref o), (1, .int (nI bc)), (2, .int (nI k))], [.int (nI k), .ref q], M1)) rfl rfl rfl ?_
          refine pl_call (a := [.ref q, .int (nI k)]) (rest := []) rfl rfl rfl (dy_firstIndex (f := f) (n := n) (N := N) (q := q) (E := E) (j := k) (hV1) (by omega)) (fun v4 M5 q6 => ?_)
          obtain ⟨rfl, rfl⟩ := q6
          show pl _ _ _ (42, [(0, .ref o), (1, .int (nI bc)), (2, .int (nI k))], [.int (nI (fi f E k))], M1) _
          refine ps_st (S' := (43, [(0, .ref o), (1, .int (nI bc)), (2, .int (nI k))], [.int (nI bc), .int (nI (fi f E k))], M1)) rfl rfl rfl ?_
          refine ps_if2 (S1 := (64, [(0, .ref o), (1, .int (nI bc)), (2, .int (nI k))], [], M1)) (S2 := (46, [(0, .ref o), (1, .int (nI bc)), (2, .int (nI k))], [], M1)) rfl rfl rfl (fun c_43 => ?_) (fun c_43 => ?_)
          · have c_43 : (nI (fi f E k)) < (nI bc) := of_decide_eq_true c_43
            have n_43 : fi f E k < bc := (lt_nI (p := fi f E k) (n := bc) (Nat.lt_trans (fi_lt _ _ _) (by decide)) (by omega)).mp c_43
            refine ps_st (S' := (67, [(2, .int ((nI k) + 1)), (0, .ref o), (1, .int (nI bc))], [], M1)) rfl rfl rfl ?_
            rw [nI_add1 (p := k) (k := 1) (x := 1) rfl (by omega)]
            show pl _ _ _ (_, [(2, .int (nI (k + 1))), (0, .ref o), (1, .int (nI bc))], [], M1) _
            refine ps_st (S' := (2, [(0, .ref o), (1, .int (nI bc)), (2, .int (nI (k + 1)))], [], M1)) rfl rfl rfl ?_
            exact ih (k + 1) M1 hl_o hl_vd hl_q hV1 hF1 (by omega) (by
                rw [← hs, chkB_st (k := k) (by omega), if_neg (by omega)])
          · have c_43 : ¬ ((nI (fi f E k)) < (nI bc)) := of_decide_eq_false c_43
            have n_43 : ¬ (fi f E k < bc) := fun h9 => c_43 ((lt_nI (p := fi f E k) (n := bc) (Nat.lt_trans (fi_lt _ _ _) (by decide)) (by omega)).mpr h9)
            refine ps_st (S' := (47, [(0, .ref o), (1, .int (nI bc)), (2, .int (nI k))], [.ref o], M1)) rfl rfl rfl ?_
            refine ps_get (S' := (50, [(0, .ref o), (1, .int (nI bc)), (2, .int (nI k))], [.ref vd], M1)) rfl hl_o rfl rfl ?_
            refine ps_st (S' := (52, [(0, .ref o), (1, .int (nI bc)), (2, .int (nI k))], [.int 40, .ref vd], M1)) rfl rfl rfl ?_
            refine ps_st (S' := (53, [(0, .ref o), (1, .int (nI bc)), (2, .int (nI k))], [.ref o, .int 40, .ref vd], M1)) rfl rfl rfl ?_
            refine ps_get (S' := (56, [(0, .ref o), (1, .int (nI bc)), (2, .int (nI k))], [.ref q, .int 40, .ref vd], M1)) rfl hl_o rfl rfl ?_
            refine ps_st (S' := (57, [(0, .ref o), (1, .int (nI bc)), (2, .int (nI k))], [.int (nI k), .ref q, .int 40, .ref vd], M1)) rfl rfl rfl ?_
            have ht9 : ¬ tg f E k = 0 := by omega
            refine pl_call (a := [.ref q, .int (nI k)]) (rest := [.int 40, .ref vd]) rfl rfl rfl (dy_tagPlace (f := f) (n := n) (N := N) (q := q) (E := E) (j := k) (p := (tp E k)) (hV1) (by omega) (tp_of ht9) (ht9)) (fun v7 M8 q9 => ?_)
            obtain ⟨rfl, rfl⟩ := q9
            show pl _ _ _ (60, [(0, .ref o), (1, .int (nI bc)), (2, .int (nI k))], [.int (nI ((tp E k))), .int 40, .ref vd], M1) _
            refine pl_call (a := [.ref vd, .int 40, .int (nI ((tp E k)))]) (rest := []) rfl rfl rfl (dk_wrong (vd := vd) (ru := ru) (wa := wa) (x1 := 40) (x2 := (nI ((tp E k)))) hl_vd) (fun v10 M11 q12 => ?_)
            obtain ⟨rfl, h13, f14⟩ := q12
            have h16 := (f14.1 o (nin1 (ob_ne hl_o hl_vd (by decide)))).trans hl_o
            have h17 := (f14.1 q (nin1 (ob_ne hl_q hl_vd (by decide)))).trans hl_q
            have hF18 := hF1.tr f14 (by simp)
            have hV19 := hV1.keep f14.gm (n7c hl_vd (by decide) (n7nil))
            show pl _ _ _ (63, [(0, .ref o), (1, .int (nI bc)), (2, .int (nI k))], [.int 0], M11) _
            exact ps_ret rfl rfl (Or.inr ⟨(40, tp E k), by
                rw [← hs, chkB_st (k := k) (by omega), if_pos (by omega)], rfl, h13, hF18⟩)
        · have c_25 : ¬ ((nI (tg f E k)) = 17) := of_decide_eq_false c_25
          have n_25 : ¬ (tg f E k = 17) := fun h9 => c_25 ((eq_nI (p := tg f E k) (n := 17) (Nat.lt_trans (tg_lt _ _ _) (by decide)) (by decide)).mpr h9)
          refine ps_st (S' := (29, [(3, .int (nI (tg f E k))), (0, .ref o), (1, .int (nI bc)), (2, .int (nI k))], [.int (nI (tg f E k))], M1)) rfl rfl rfl ?_
          refine ps_st (S' := (31, [(3, .int (nI (tg f E k))), (0, .ref o), (1, .int (nI bc)), (2, .int (nI k))], [.int 18, .int (nI (tg f E k))], M1)) rfl rfl rfl ?_
          refine ps_if2 (S1 := (64, [(0, .ref o), (1, .int (nI bc)), (2, .int (nI k))], [], M1)) (S2 := (34, [(0, .ref o), (1, .int (nI bc)), (2, .int (nI k))], [], M1)) rfl rfl rfl (fun c_31 => ?_) (fun c_31 => ?_)
          · have c_31 : ¬ (nI (tg f E k)) = 18 := of_decide_eq_true c_31
            have n_31 : ¬ (tg f E k = 18) := fun h9 => c_31 ((eq_nI (p := tg f E k) (n := 18) (Nat.lt_trans (tg_lt _ _ _) (by decide)) (by decide)).mpr h9)
            refine ps_st (S' := (67, [(2, .int ((nI k) + 1)), (0, .ref o), (1, .int (nI bc))], [], M1)) rfl rfl rfl ?_
            rw [nI_add1 (p := k) (k := 1) (x := 1) rfl (by omega)]
            show pl _ _ _ (_, [(2, .int (nI (k + 1))), (0, .ref o), (1, .int (nI bc))], [], M1) _
            refine ps_st (S' := (2, [(0, .ref o), (1, .int (nI bc)), (2, .int (nI (k + 1)))], [], M1)) rfl rfl rfl ?_
            exact ih (k + 1) M1 hl_o hl_vd hl_q hV1 hF1 (by omega) (by
                rw [← hs, chkB_st (k := k) (by omega), if_neg (by omega)])
          · have c_31 : ¬ (¬ (nI (tg f E k)) = 18) := of_decide_eq_false c_31
            have n_31 : tg f E k = 18 := (eq_nI (p := tg f E k) (n := 18) (Nat.lt_trans (tg_lt _ _ _) (by decide)) (by decide)).mp (Decidable.not_not.mp c_31)
            refine ps_st (S' := (35, [(0, .ref o), (1, .int (nI bc)), (2, .int (nI k))], [.ref o], M1)) rfl rfl rfl ?_
            refine ps_get (S' := (38, [(0, .ref o), (1, .int (nI bc)), (2, .int (nI k))], [.ref q], M1)) rfl hl_o rfl rfl ?_
            refine ps_st (S' := (39, [(0, .ref o), (1, .int (nI bc)), (2, .int (nI k))], [.int (nI k), .ref q], M1)) rfl rfl rfl ?_
            refine pl_call (a := [.ref q, .int (nI k)]) (rest := []) rfl rfl rfl (dy_firstIndex (f := f) (n := n) (N := N) (q := q) (E := E) (j := k) (hV1) (by omega)) (fun v20 M21 q22 => ?_)
            obtain ⟨rfl, rfl⟩ := q22
            show pl _ _ _ (42, [(0, .ref o), (1, .int (nI bc)), (2, .int (nI k))], [.int (nI (fi f E k))], M1) _
            refine ps_st (S' := (43, [(0, .ref o), (1, .int (nI bc)), (2, .int (nI k))], [.int (nI bc), .int (nI (fi f E k))], M1)) rfl rfl rfl ?_
            refine ps_if2 (S1 := (64, [(0, .ref o), (1, .int (nI bc)), (2, .int (nI k))], [], M1)) (S2 := (46, [(0, .ref o), (1, .int (nI bc)), (2, .int (nI k))], [], M1)) rfl rfl rfl (fun c_43 => ?_) (fun c_43 => ?_)
            · have c_43 : (nI (fi f E k)) < (nI bc) := of_decide_eq_true c_43
              have n_43 : fi f E k < bc := (lt_nI (p := fi f E k) (n := bc) (Nat.lt_trans (fi_lt _ _ _) (by decide)) (by omega)).mp c_43
              refine ps_st (S' := (67, [(2, .int ((nI k) + 1)), (0, .ref o), (1, .int (nI bc))], [], M1)) rfl rfl rfl ?_
              rw [nI_add1 (p := k) (k := 1) (x := 1) rfl (by omega)]
              show pl _ _ _ (_, [(2, .int (nI (k + 1))), (0, .ref o), (1, .int (nI bc))], [], M1) _
              refine ps_st (S' := (2, [(0, .ref o), (1, .int (nI bc)), (2, .int (nI (k + 1)))], [], M1)) rfl rfl rfl ?_
              exact ih (k + 1) M1 hl_o hl_vd hl_q hV1 hF1 (by omega) (by
                  rw [← hs, chkB_st (k := k) (by omega), if_neg (by omega)])
            · have c_43 : ¬ ((nI (fi f E k)) < (nI bc)) := of_decide_eq_false c_43
              have n_43 : ¬ (fi f E k < bc) := fun h9 => c_43 ((lt_nI (p := fi f E k) (n := bc) (Nat.lt_trans (fi_lt _ _ _) (by decide)) (by omega)).mpr h9)
              refine ps_st (S' := (47, [(0, .ref o), (1, .int (nI bc)), (2, .int (nI k))], [.ref o], M1)) rfl rfl rfl ?_
              refine ps_get (S' := (50, [(0, .ref o), (1, .int (nI bc)), (2, .int (nI k))], [.ref vd], M1)) rfl hl_o rfl rfl ?_
              refine ps_st (S' := (52, [(0, .ref o), (1, .int (nI bc)), (2, .int (nI k))], [.int 40, .ref vd], M1)) rfl rfl rfl ?_
              refine ps_st (S' := (53, [(0, .ref o), (1, .int (nI bc)), (2, .int (nI k))], [.ref o, .int 40, .ref vd], M1)) rfl rfl rfl ?_
              refine ps_get (S' := (56, [(0, .ref o), (1, .int (nI bc)), (2, .int (nI k))], [.ref q, .int 40, .ref vd], M1)) rfl hl_o rfl rfl ?_
              refine ps_st (S' := (57, [(0, .ref o), (1, .int (nI bc)), (2, .int (nI k))], [.int (nI k), .ref q, .int 40, .ref vd], M1)) rfl rfl rfl ?_
              have ht9 : ¬ tg f E k = 0 := by omega
              refine pl_call (a := [.ref q, .int (nI k)]) (rest := [.int 40, .ref vd]) rfl rfl rfl (dy_tagPlace (f := f) (n := n) (N := N) (q := q) (E := E) (j := k) (p := (tp E k)) (hV1) (by omega) (tp_of ht9) (ht9)) (fun v23 M24 q25 => ?_)
              obtain ⟨rfl, rfl⟩ := q25
              show pl _ _ _ (60, [(0, .ref o), (1, .int (nI bc)), (2, .int (nI k))], [.int (nI ((tp E k))), .int 40, .ref vd], M1) _
              refine pl_call (a := [.ref vd, .int 40, .int (nI ((tp E k)))]) (rest := []) rfl rfl rfl (dk_wrong (vd := vd) (ru := ru) (wa := wa) (x1 := 40) (x2 := (nI ((tp E k)))) hl_vd) (fun v26 M27 q28 => ?_)
              obtain ⟨rfl, h29, f30⟩ := q28
              have h32 := (f30.1 o (nin1 (ob_ne hl_o hl_vd (by decide)))).trans hl_o
              have h33 := (f30.1 q (nin1 (ob_ne hl_q hl_vd (by decide)))).trans hl_q
              have hF34 := hF1.tr f30 (by simp)
              have hV35 := hV1.keep f30.gm (n7c hl_vd (by decide) (n7nil))
              show pl _ _ _ (63, [(0, .ref o), (1, .int (nI bc)), (2, .int (nI k))], [.int 0], M27) _
              exact ps_ret rfl rfl (Or.inr ⟨(40, tp E k), by
                  rw [← hs, chkB_st (k := k) (by omega), if_pos (by omega)], rfl, h29, hF34⟩)
  refine ps_st (S' := (1, [(0, .ref o), (1, .int (nI bc))], [.int 1], M)) rfl rfl rfl ?_
  refine ps_st (S' := (2, [(0, .ref o), (1, .int (nI bc)), (2, .int 1)], [], M)) rfl rfl rfl ?_
  exact (LL kf) (1) M h_o h_vd h_q hV hF (by omega) (rfl)
end
section
/-! checks of the class, of fields and methods (laid by wip/p4/d9.py) -/
section CKB
def hasN (x w : Nat) : Nat := if aN x w = 0 then 0 else 1
def hallN (x w : Nat) : Nat := if aN x w = w then 1 else 0
def bc3 (y : Nat) : Nat := if y = 0 then 0 else if y = 1 ∨ y = 2 ∨ y = 4 then 1 else if y = 7 then 3 else 2
def oneN (x : Nat) : Nat := if bc3 (aN x 7) ≤ 1 then 1 else 0
def cflN (x : Nat) : Nat := if ¬ aN x 32768 = 0 then 0 else if ¬ aN x 512 = 0 then (if ¬ aN x 1024 = 0 ∧ aN x 16432 = 0 then 1 else 0) else if aN x 8192 = 0 ∧ hallN x 1040 = 0 then 1 else 0
def fflN (c x : Nat) : Nat := if ¬ hasN c 512 = 0 then (if aN x 16607 = 25 then 1 else 0) else if ¬ oneN x = 0 ∧ hallN x 80 = 0 then 1 else 0
theorem le1_has (x w : Nat) : hasN x w < 2 := by unfold hasN; split <;> decide
theorem le1_hall (x w : Nat) : hallN x w < 2 := by unfold hallN; split <;> decide
theorem le1_one (x : Nat) : oneN x < 2 := by unfold oneN; split <;> decide
theorem le1_cfl (x : Nat) : cflN x < 2 := by
  unfold cflN
  repeat' split
  all_goals decide
theorem le1_ffl (c x : Nat) : fflN c x < 2 := by
  unfold fflN
  repeat' split
  all_goals decide
theorem bc3_lt (y : Nat) : bc3 y < 4 := by
  unfold bc3
  repeat' split
  all_goals decide
/-- the class's head -/
def hdS (f : Nat → Int32) (n : Nat) (E : List (Nat × Nat)) (fa : Nat) : Option (Nat × Nat) :=
  if cflN (by2 f fa) = 0 then some (15, fa) else if plnN f n E (by2 f (fa + 2)) = 0 then some (16, fa + 2) else
  if plnN f n E (by2 f (fa + 4)) = 0 ∨ (¬ hasN (by2 f fa) 512 = 0 ∧ eqN (tX f n E (fi f E (by2 f (fa + 4)))) (ltx 11) = 0) then some (17, fa + 4) else none
/-- whether the interface x is among those from number j on (r of them) -/
def dupN (f : Nat → Int32) (n : Nat) (E : List (Nat × Nat)) (s x : Nat) : Nat → Nat → Nat
  | 0, _ => 0
  | r + 1, j => if smN f n E (fi f E (by2 f (s + 2 * j))) (fi f E x) = 0 then dupN f n E s x r (j + 1) else 1
def ifS (f : Nat → Int32) (n : Nat) (E : List (Nat × Nat)) (s : Nat) : Nat → Nat → Option (Nat × Nat)
  | 0, _ => none
  | r + 1, i => if plnN f n E (by2 f (s + 2 * i)) = 0 then some (18, s + 2 * i) else if ¬ dupN f n E s (by2 f (s + 2 * i)) i 0 = 0 then some (18, s + 2 * i) else ifS f n E s r (i + 1)
theorem ifS_st {f : Nat → Int32} {n : Nat} {E : List (Nat × Nat)} {s c i : Nat} (h : i < c) : ifS f n E s (c - i) i = if plnN f n E (by2 f (s + 2 * i)) = 0 then some (18, s + 2 * i) else if ¬ dupN f n E s (by2 f (s + 2 * i)) i 0 = 0 then some (18, s + 2 * i) else ifS f n E s (c - (i + 1)) (i + 1) := by
  rw [show c - i = (c - (i + 1)) + 1 by omega]
  rfl
theorem dupN_st {f : Nat → Int32} {n : Nat} {E : List (Nat × Nat)} {s x i j : Nat} (h : j < i) : dupN f n E s x (i - j) j = if smN f n E (fi f E (by2 f (s + 2 * j))) (fi f E x) = 0 then dupN f n E s x (i - (j + 1)) (j + 1) else 1 := by
  rw [show i - j = (i - (j + 1)) + 1 by omega]
  rfl
end CKB
theorem dk_u2 {g : xe_G} {M : mi_H} {f : Nat → Int32} {n b da p : Nat} (h_b : M.1 b = some (ob 1 [.ref da])) (h_da : M.1 da = some (ar .byte n f)) (hn : n ≤ 65540) (hin : p + 2 ≤ n) : pt (mT g) 49 [.ref b, .int (nI p)] M (fun v M' => (v = some (.int (nI (by2 f p))) ∧ M = M')) := (ct_u2 ⟨h_b, h_da, by omega⟩ (d := 3) (by decide)).pt.mono (fun v M' h => ⟨by rw [h.1, u2_nI hn hin], h.2.symm⟩)
theorem dk_u4 {g : xe_G} {M : mi_H} {f : Nat → Int32} {n b da p : Nat} (h_b : M.1 b = some (ob 1 [.ref da])) (h_da : M.1 da = some (ar .byte n f)) (hn : n ≤ 65540) (hin : p + 4 ≤ n) : pt (mT g) 50 [.ref b, .int (nI p)] M (fun v M' => (v = some (.int (nI (by4 f p))) ∧ M = M')) := (ct_u4 ⟨h_b, h_da, by omega⟩ (d := 3) (by decide)).pt.mono (fun v M' h => ⟨by rw [h.1, u4_nI hn hin], h.2.symm⟩)
set_option maxHeartbeats 1000000 in
theorem dk_fhas {g : xe_G} {M : mi_H} {f : Nat → Int32} {n q : Nat} {c b da fr mr fa ic mj na pa : Nat} {mi k1 k2 k3 k4 k5 k6 k7 : Int32} {x : Nat} (h_c : M.1 c = some (ob 3 [.ref b, .ref q, .int mi, .int (nI mj), .int (nI fa), .int (nI ic), .ref fr, .ref mr, .int (nI na), .int (nI pa), .int k1, .int k2, .int k3, .int k4, .int k5, .int k6, .int k7])) (h_b : M.1 b = some (ob 1 [.ref da])) (h_da : M.1 da = some (ar .byte n f)) (hn : n ≤ 65540) (hfa : fa + 8 ≤ n) : pt (mT g) 71 [.ref c, .int (nI x)] M (fun v M' => (v = some (.int (nI (hasN (by2 f fa) x))) ∧ M = M')) := by
  refine pt_in (b := mb_71 g) rfl (fun kf => ?_)
  show pl (mT g) kf (mb_71 g).2 (0, [(0, .ref c), (1, .int (nI x))], [], M) _
  have hu9 := by2_lt f fa
  have han9 : aN (by2 f fa) x < 65536 := Nat.lt_of_le_of_lt Nat.and_le_left hu9
  refine ps_st (S' := (1, [(0, .ref c), (1, .int (nI x))], [.ref c], M)) rfl rfl rfl ?_
  refine ps_get (S' := (4, [(0, .ref c), (1, .int (nI x))], [.ref b], M)) rfl h_c rfl rfl ?_
  refine ps_st (S' := (5, [(0, .ref c), (1, .int (nI x))], [.ref c, .ref b], M)) rfl rfl rfl ?_
  refine ps_get (S' := (8, [(0, .ref c), (1, .int (nI x))], [.int (nI fa), .ref b], M)) rfl h_c rfl rfl ?_
  refine pl_call (a := [.ref b, .int (nI fa)]) (rest := []) rfl rfl rfl (dk_u2 (f := f) (n := n) (b := b) (da := da) (p := fa) h_b h_da (hn) (by omega)) (fun v1 M2 q3 => ?_)
  obtain ⟨rfl, rfl⟩ := q3
  show pl _ _ _ (11, [(0, .ref c), (1, .int (nI x))], [.int (nI (by2 f fa))], M) _
  have hu_8 := by2_lt f fa
  refine ps_st (S' := (12, [(0, .ref c), (1, .int (nI x))], [.int (nI x), .int (nI (by2 f fa))], M)) rfl rfl rfl ?_
  refine ps_st (S' := (13, [(0, .ref c), (1, .int (nI x))], [.int ((nI (by2 f fa)) &&& (nI x))], M)) rfl rfl rfl ?_
  rw [nI_an (p := by2 f fa) (k := x) (x := (nI x)) rfl]
  show pl _ _ _ (_, [(0, .ref c), (1, .int (nI x))], [.int (nI (aN (by2 f fa) x))], M) _
  refine ps_if (S1 := (20, [(0, .ref c), (1, .int (nI x))], [], M)) (S2 := (16, [(0, .ref c), (1, .int (nI x))], [], M)) rfl rfl rfl (fun c_13 => ?_) (fun c_13 => ?_)
  · have c_13 : (nI (aN (by2 f fa) x)) = 0 := of_decide_eq_true c_13
    have n_13 : aN (by2 f fa) x = 0 := (eq_nI (p := aN (by2 f fa) x) (n := 0) (by omega) (by decide)).mp c_13
    refine ps_st (S' := (21, [], [.int 0], M)) rfl rfl rfl ?_
    exact ps_ret rfl rfl (⟨congrArg (fun x => some (Value.int (nI x))) (show 0 = hasN (by2 f fa) x from by
        have hx9 := an_le (by2 f fa) x
        unfold hasN
        first | ((repeat first | rw [if_pos (by omega)] | rw [if_neg (by omega)]) <;> first | rfl | omega) | ((repeat' split) <;> first | rfl | (exfalso; omega) | omega)), rfl⟩)
  · have c_13 : ¬ ((nI (aN (by2 f fa) x)) = 0) := of_decide_eq_false c_13
    have n_13 : ¬ (aN (by2 f fa) x = 0) := fun h9 => c_13 ((eq_nI (p := aN (by2 f fa) x) (n := 0) (by omega) (by decide)).mpr h9)
    refine ps_st (S' := (17, [(0, .ref c), (1, .int (nI x))], [.int 1], M)) rfl rfl rfl ?_
    refine ps_st (S' := (21, [], [.int 1], M)) rfl rfl rfl ?_
    exact ps_ret rfl rfl (⟨congrArg (fun x => some (Value.int (nI x))) (show 1 = hasN (by2 f fa) x from by
        have hx9 := an_le (by2 f fa) x
        unfold hasN
        first | ((repeat first | rw [if_pos (by omega)] | rw [if_neg (by omega)]) <;> first | rfl | omega) | ((repeat' split) <;> first | rfl | (exfalso; omega) | omega)), rfl⟩)
set_option maxHeartbeats 1000000 in
theorem dk_mhas {g : xe_G} {M : mi_H} {f : Nat → Int32} {a b0 : Nat} {kn co ap ex : Int32} {cd : Value} {x : Nat} (h_a : M.1 a = some (ob 6 [.int (nI b0), .int (nI (by2 f b0)), .int (nI (by2 f (b0 + 2))), .int (nI (by2 f (b0 + 4))), .int (nI (by2 f (b0 + 6))), .int (nI (b0 + 8)), .int kn, .int co, .int ap, .int ex, cd]))  : pt (mT g) 108 [.ref a, .int (nI x)] M (fun v M' => (v = some (.int (nI (hasN (by2 f b0) x))) ∧ M = M')) := by
  refine pt_in (b := mb_108 g) rfl (fun kf => ?_)
  show pl (mT g) kf (mb_108 g).2 (0, [(0, .ref a), (1, .int (nI x))], [], M) _
  have hu9 := by2_lt f b0
  have han9 : aN (by2 f b0) x < 65536 := Nat.lt_of_le_of_lt Nat.and_le_left hu9
  refine ps_st (S' := (1, [(0, .ref a), (1, .int (nI x))], [.ref a], M)) rfl rfl rfl ?_
  refine ps_get (S' := (4, [(0, .ref a), (1, .int (nI x))], [.int (nI (by2 f b0))], M)) rfl h_a rfl rfl ?_
  refine ps_st (S' := (5, [(0, .ref a), (1, .int (nI x))], [.int (nI x), .int (nI (by2 f b0))], M)) rfl rfl rfl ?_
  refine ps_st (S' := (6, [(0, .ref a), (1, .int (nI x))], [.int ((nI (by2 f b0)) &&& (nI x))], M)) rfl rfl rfl ?_
  rw [nI_an (p := by2 f b0) (k := x) (x := (nI x)) rfl]
  show pl _ _ _ (_, [(0, .ref a), (1, .int (nI x))], [.int (nI (aN (by2 f b0) x))], M) _
  refine ps_if (S1 := (13, [(0, .ref a), (1, .int (nI x))], [], M)) (S2 := (9, [(0, .ref a), (1, .int (nI x))], [], M)) rfl rfl rfl (fun c_6 => ?_) (fun c_6 => ?_)
  · have c_6 : (nI (aN (by2 f b0) x)) = 0 := of_decide_eq_true c_6
    have n_6 : aN (by2 f b0) x = 0 := (eq_nI (p := aN (by2 f b0) x) (n := 0) (by omega) (by decide)).mp c_6
    refine ps_st (S' := (14, [], [.int 0], M)) rfl rfl rfl ?_
    exact ps_ret rfl rfl (⟨congrArg (fun x => some (Value.int (nI x))) (show 0 = hasN (by2 f b0) x from by
        unfold hasN
        first | ((repeat first | rw [if_pos (by omega)] | rw [if_neg (by omega)]) <;> first | rfl | omega) | ((repeat' split) <;> first | rfl | (exfalso; omega) | omega)), rfl⟩)
  · have c_6 : ¬ ((nI (aN (by2 f b0) x)) = 0) := of_decide_eq_false c_6
    have n_6 : ¬ (aN (by2 f b0) x = 0) := fun h9 => c_6 ((eq_nI (p := aN (by2 f b0) x) (n := 0) (by omega) (by decide)).mpr h9)
    refine ps_st (S' := (10, [(0, .ref a), (1, .int (nI x))], [.int 1], M)) rfl rfl rfl ?_
    refine ps_st (S' := (14, [], [.int 1], M)) rfl rfl rfl ?_
    exact ps_ret rfl rfl (⟨congrArg (fun x => some (Value.int (nI x))) (show 1 = hasN (by2 f b0) x from by
        unfold hasN
        first | ((repeat first | rw [if_pos (by omega)] | rw [if_neg (by omega)]) <;> first | rfl | omega) | ((repeat' split) <;> first | rfl | (exfalso; omega) | omega)), rfl⟩)
set_option maxHeartbeats 1000000 in
theorem dk_hasAll {g : xe_G} {M : mi_H} {x w : Nat}  (hx : x < 65536) (hw : w < 65536) : pt (mT g) 58 [.int (nI x), .int (nI w)] M (fun v M' => (v = some (.int (nI (hallN x w))) ∧ M = M')) := by
  refine pt_in (b := mb_58 g) rfl (fun kf => ?_)
  show pl (mT g) kf (mb_58 g).2 (0, [(0, .int (nI x)), (1, .int (nI w))], [], M) _
  have ha_x : ∀ m, aN x m < 65536 := fun m => Nat.lt_of_le_of_lt Nat.and_le_left hx
  refine ps_st (S' := (1, [(0, .int (nI x)), (1, .int (nI w))], [.int (nI x)], M)) rfl rfl rfl ?_
  refine ps_st (S' := (2, [(0, .int (nI x)), (1, .int (nI w))], [.int (nI w), .int (nI x)], M)) rfl rfl rfl ?_
  refine ps_st (S' := (3, [(0, .int (nI x)), (1, .int (nI w))], [.int ((nI x) &&& (nI w))], M)) rfl rfl rfl ?_
  rw [nI_an (p := x) (k := w) (x := (nI w)) rfl]
  show pl _ _ _ (_, [(0, .int (nI x)), (1, .int (nI w))], [.int (nI (aN x w))], M) _
  refine ps_st (S' := (4, [(0, .int (nI x)), (1, .int (nI w))], [.int (nI w), .int (nI (aN x w))], M)) rfl rfl rfl ?_
  refine ps_if2 (S1 := (11, [(0, .int (nI x)), (1, .int (nI w))], [], M)) (S2 := (7, [(0, .int (nI x)), (1, .int (nI w))], [], M)) rfl rfl rfl (fun c_4 => ?_) (fun c_4 => ?_)
  · have c_4 : ¬ (nI (aN x w)) = (nI w) := of_decide_eq_true c_4
    have n_4 : ¬ (aN x w = w) := fun h9 => c_4 ((eq_nI (p := aN x w) (n := w) (Nat.lt_trans (ha_x _) (by decide)) (by omega)).mpr h9)
    refine ps_st (S' := (12, [], [.int 0], M)) rfl rfl rfl ?_
    exact ps_ret rfl rfl (⟨congrArg (fun x => some (Value.int (nI x))) (show 0 = hallN x w from by
        unfold hallN
        first | ((repeat first | rw [if_pos (by omega)] | rw [if_neg (by omega)]) <;> first | rfl | omega) | ((repeat' split) <;> first | rfl | (exfalso; omega) | omega)), rfl⟩)
  · have c_4 : ¬ (¬ (nI (aN x w)) = (nI w)) := of_decide_eq_false c_4
    have n_4 : aN x w = w := (eq_nI (p := aN x w) (n := w) (Nat.lt_trans (ha_x _) (by decide)) (by omega)).mp (Decidable.not_not.mp c_4)
    refine ps_st (S' := (8, [(0, .int (nI x)), (1, .int (nI w))], [.int 1], M)) rfl rfl rfl ?_
    refine ps_st (S' := (12, [], [.int 1], M)) rfl rfl rfl ?_
    exact ps_ret rfl rfl (⟨congrArg (fun x => some (Value.int (nI x))) (show 1 = hallN x w from by
        unfold hallN
        first | ((repeat first | rw [if_pos (by omega)] | rw [if_neg (by omega)]) <;> first | rfl | omega) | ((repeat' split) <;> first | rfl | (exfalso; omega) | omega)), rfl⟩)
set_option maxHeartbeats 1000000 in
theorem dk_bitCount {g : xe_G} {M : mi_H} {y : Nat}  (hy : y < 8) : pt (mT g) 257 [.int (nI y)] M (fun v M' => (v = some (.int (nI (bc3 y))) ∧ M = M')) := by
  refine pt_in (b := mb_257 g) rfl (fun kf => ?_)
  show pl (mT g) kf (mb_257 g).2 (0, [(0, .int (nI y))], [], M) _
  refine ps_st (S' := (1, [(0, .int (nI y))], [.int (nI y)], M)) rfl rfl rfl ?_
  refine ps_st (S' := (2, [(0, .int (nI y))], [.int (nI y), .int (nI y)], M)) rfl rfl rfl ?_
  refine ps_st (S' := (3, [(0, .int (nI y))], [.int 1, .int (nI y), .int (nI y)], M)) rfl rfl rfl ?_
  refine ps_st (S' := (4, [(0, .int (nI y))], [.int (((nI y).toUInt32 >>> ((1 : Int32).toUInt32 &&& Int32.toUInt32 31)).toInt32), .int (nI y)], M)) rfl rfl rfl ?_
  refine ps_st (S' := (7, [(0, .int (nI y))], [.int 1431655765, .int (((nI y).toUInt32 >>> ((1 : Int32).toUInt32 &&& Int32.toUInt32 31)).toInt32), .int (nI y)], M)) rfl rfl rfl ?_
  refine ps_st (S' := (8, [(0, .int (nI y))], [.int ((((nI y).toUInt32 >>> ((1 : Int32).toUInt32 &&& Int32.toUInt32 31)).toInt32) &&& 1431655765), .int (nI y)], M)) rfl rfl rfl ?_
  refine ps_st (S' := (9, [(0, .int (nI y))], [.int ((nI y) - ((((nI y).toUInt32 >>> ((1 : Int32).toUInt32 &&& Int32.toUInt32 31)).toInt32) &&& 1431655765))], M)) rfl rfl rfl ?_
  refine ps_st (S' := (10, [(0, .int ((nI y) - ((((nI y).toUInt32 >>> ((1 : Int32).toUInt32 &&& Int32.toUInt32 31)).toInt32) &&& 1431655765)))], [], M)) rfl rfl rfl ?_
  refine ps_st (S' := (11, [(0, .int ((nI y) - ((((nI y).toUInt32 >>> ((1 : Int32).toUInt32 &&& Int32.toUInt32 31)).toInt32) &&& 1431655765)))], [.int ((nI y) - ((((nI y).toUInt32 >>> ((1 : Int32).toUInt32 &&& Int32.toUInt32 31)).toInt32) &&& 1431655765))], M)) rfl rfl rfl ?_
  refine ps_st (S' := (14, [(0, .int ((nI y) - ((((nI y).toUInt32 >>> ((1 : Int32).toUInt32 &&& Int32.toUInt32 31)).toInt32) &&& 1431655765)))], [.int 858993459, .int ((nI y) - ((((nI y).toUInt32 >>> ((1 : Int32).toUInt32 &&& Int32.toUInt32 31)).toInt32) &&& 1431655765))], M)) rfl rfl rfl ?_
  refine ps_st (S' := (15, [(0, .int ((nI y) - ((((nI y).toUInt32 >>> ((1 : Int32).toUInt32 &&& Int32.toUInt32 31)).toInt32) &&& 1431655765)))], [.int (((nI y) - ((((nI y).toUInt32 >>> ((1 : Int32).toUInt32 &&& Int32.toUInt32 31)).toInt32) &&& 1431655765)) &&& 858993459)], M)) rfl rfl rfl ?_
  refine ps_st (S' := (16, [(0, .int ((nI y) - ((((nI y).toUInt32 >>> ((1 : Int32).toUInt32 &&& Int32.toUInt32 31)).toInt32) &&& 1431655765)))], [.int ((nI y) - ((((nI y).toUInt32 >>> ((1 : Int32).toUInt32 &&& Int32.toUInt32 31)).toInt32) &&& 1431655765)), .int (((nI y) - ((((nI y).toUInt32 >>> ((1 : Int32).toUInt32 &&& Int32.toUInt32 31)).toInt32) &&& 1431655765)) &&& 858993459)], M)) rfl rfl rfl ?_
  refine ps_st (S' := (17, [(0, .int ((nI y) - ((((nI y).toUInt32 >>> ((1 : Int32).toUInt32 &&& Int32.toUInt32 31)).toInt32) &&& 1431655765)))], [.int 2, .int ((nI y) - ((((nI y).toUInt32 >>> ((1 : Int32).toUInt32 &&& Int32.toUInt32 31)).toInt32) &&& 1431655765)), .int (((nI y) - ((((nI y).toUInt32 >>> ((1 : Int32).toUInt32 &&& Int32.toUInt32 31)).toInt32) &&& 1431655765)) &&& 858993459)], M)) rfl rfl rfl ?_
  refine ps_st (S' := (18, [(0, .int ((nI y) - ((((nI y).toUInt32 >>> ((1 : Int32).toUInt32 &&& Int32.toUInt32 31)).toInt32) &&& 1431655765)))], [.int ((((nI y) - ((((nI y).toUInt32 >>> ((1 : Int32).toUInt32 &&& Int32.toUInt32 31)).toInt32) &&& 1431655765)).toUInt32 >>> ((2 : Int32).toUInt32 &&& Int32.toUInt32 31)).toInt32), .int (((nI y) - ((((nI y).toUInt32 >>> ((1 : Int32).toUInt32 &&& Int32.toUInt32 31)).toInt32) &&& 1431655765)) &&& 858993459)], M)) rfl rfl rfl ?_
  refine ps_st (S' := (21, [(0, .int ((nI y) - ((((nI y).toUInt32 >>> ((1 : Int32).toUInt32 &&& Int32.toUInt32 31)).toInt32) &&& 1431655765)))], [.int 858993459, .int ((((nI y) - ((((nI y).toUInt32 >>> ((1 : Int32).toUInt32 &&& Int32.toUInt32 31)).toInt32) &&& 1431655765)).toUInt32 >>> ((2 : Int32).toUInt32 &&& Int32.toUInt32 31)).toInt32), .int (((nI y) - ((((nI y).toUInt32 >>> ((1 : Int32).toUInt32 &&& Int32.toUInt32 31)).toInt32) &&& 1431655765)) &&& 858993459)], M)) rfl rfl rfl ?_
  refine ps_st (S' := (22, [(0, .int ((nI y) - ((((nI y).toUInt32 >>> ((1 : Int32).toUInt32 &&& Int32.toUInt32 31)).toInt32) &&& 1431655765)))], [.int (((((nI y) - ((((nI y).toUInt32 >>> ((1 : Int32).toUInt32 &&& Int32.toUInt32 31)).toInt32) &&& 1431655765)).toUInt32 >>> ((2 : Int32).toUInt32 &&& Int32.toUInt32 31)).toInt32) &&& 858993459), .int (((nI y) - ((((nI y).toUInt32 >>> ((1 : Int32).toUInt32 &&& Int32.toUInt32 31)).toInt32) &&& 1431655765)) &&& 858993459)], M)) rfl rfl rfl ?_
  refine ps_st (S' := (23, [(0, .int ((nI y) - ((((nI y).toUInt32 >>> ((1 : Int32).toUInt32 &&& Int32.toUInt32 31)).toInt32) &&& 1431655765)))], [.int ((((nI y) - ((((nI y).toUInt32 >>> ((1 : Int32).toUInt32 &&& Int32.toUInt32 31)).toInt32) &&& 1431655765)) &&& 858993459) + (((((nI y) - ((((nI y).toUInt32 >>> ((1 : Int32).toUInt32 &&& Int32.toUInt32 31)).toInt32) &&& 1431655765)).toUInt32 >>> ((2 : Int32).toUInt32 &&& Int32.toUInt32 31)).toInt32) &&& 858993459))], M)) rfl rfl rfl ?_
  refine ps_st (S' := (24, [(0, .int ((((nI y) - ((((nI y).toUInt32 >>> ((1 : Int32).toUInt32 &&& Int32.toUInt32 31)).toInt32) &&& 1431655765)) &&& 858993459) + (((((nI y) - ((((nI y).toUInt32 >>> ((1 : Int32).toUInt32 &&& Int32.toUInt32 31)).toInt32) &&& 1431655765)).toUInt32 >>> ((2 : Int32).toUInt32 &&& Int32.toUInt32 31)).toInt32) &&& 858993459)))], [], M)) rfl rfl rfl ?_
  refine ps_st (S' := (25, [(0, .int ((((nI y) - ((((nI y).toUInt32 >>> ((1 : Int32).toUInt32 &&& Int32.toUInt32 31)).toInt32) &&& 1431655765)) &&& 858993459) + (((((nI y) - ((((nI y).toUInt32 >>> ((1 : Int32).toUInt32 &&& Int32.toUInt32 31)).toInt32) &&& 1431655765)).toUInt32 >>> ((2 : Int32).toUInt32 &&& Int32.toUInt32 31)).toInt32) &&& 858993459)))], [.int ((((nI y) - ((((nI y).toUInt32 >>> ((1 : Int32).toUInt32 &&& Int32.toUInt32 31)).toInt32) &&& 1431655765)) &&& 858993459) + (((((nI y) - ((((nI y).toUInt32 >>> ((1 : Int32).toUInt32 &&& Int32.toUInt32 31)).toInt32) &&& 1431655765)).toUInt32 >>> ((2 : Int32).toUInt32 &&& Int32.toUInt32 31)).toInt32) &&& 858993459))], M)) rfl rfl rfl ?_
  refine ps_st (S' := (26, [(0, .int ((((nI y) - ((((nI y).toUInt32 >>> ((1 : Int32).toUInt32 &&& Int32.toUInt32 31)).toInt32) &&& 1431655765)) &&& 858993459) + (((((nI y) - ((((nI y).toUInt32 >>> ((1 : Int32).toUInt32 &&& Int32.toUInt32 31)).toInt32) &&& 1431655765)).toUInt32 >>> ((2 : Int32).toUInt32 &&& Int32.toUInt32 31)).toInt32) &&& 858993459)))], [.int ((((nI y) - ((((nI y).toUInt32 >>> ((1 : Int32).toUInt32 &&& Int32.toUInt32 31)).toInt32) &&& 1431655765)) &&& 858993459) + (((((nI y) - ((((nI y).toUInt32 >>> ((1 : Int32).toUInt32 &&& Int32.toUInt32 31)).toInt32) &&& 1431655765)).toUInt32 >>> ((2 : Int32).toUInt32 &&& Int32.toUInt32 31)).toInt32) &&& 858993459)), .int ((((nI y) - ((((nI y).toUInt32 >>> ((1 : Int32).toUInt32 &&& Int32.toUInt32 31)).toInt32) &&& 1431655765)) &&& 858993459) + (((((nI y) - ((((nI y).toUInt32 >>> ((1 : Int32).toUInt32 &&& Int32.toUInt32 31)).toInt32) &&& 1431655765)).toUInt32 >>> ((2 : Int32).toUInt32 &&& Int32.toUInt32 31)).toInt32) &&& 858993459))], M)) rfl rfl rfl ?_
  refine ps_st (S' := (27, [(0, .int ((((nI y) - ((((nI y).toUInt32 >>> ((1 : Int32).toUInt32 &&& Int32.toUInt32 31)).toInt32) &&& 1431655765)) &&& 858993459) + (((((nI y) - ((((nI y).toUInt32 >>> ((1 : Int32).toUInt32 &&& Int32.toUInt32 31)).toInt32) &&& 1431655765)).toUInt32 >>> ((2 : Int32).toUInt32 &&& Int32.toUInt32 31)).toInt32) &&& 858993459)))], [.int 4, .int ((((nI y) - ((((nI y).toUInt32 >>> ((1 : Int32).toUInt32 &&& Int32.toUInt32 31)).toInt32) &&& 1431655765)) &&& 858993459) + (((((nI y) - ((((nI y).toUInt32 >>> ((1 : Int32).toUInt32 &&& Int32.toUInt32 31)).toInt32) &&& 1431655765)).toUInt32 >>> ((2 : Int32).toUInt32 &&& Int32.toUInt32 31)).toInt32) &&& 858993459)), .int ((((nI y) - ((((nI y).toUInt32 >>> ((1 : Int32).toUInt32 &&& Int32.toUInt32 31)).toInt32) &&& 1431655765)) &&& 858993459) + (((((nI y) - ((((nI y).toUInt32 >>> ((1 : Int32).toUInt32 &&& Int32.toUInt32 31)).toInt32) &&& 1431655765)).toUInt32 >>> ((2 : Int32).toUInt32 &&& Int32.toUInt32 31)).toInt32) &&& 858993459))], M)) rfl rfl rfl ?_
  refine ps_st (S' := (28, [(0, .int ((((nI y) - ((((nI y).toUInt32 >>> ((1 : Int32).toUInt32 &&& Int32.toUInt32 31)).toInt32) &&& 1431655765)) &&& 858993459) + (((((nI y) - ((((nI y).toUInt32 >>> ((1 : Int32).toUInt32 &&& Int32.toUInt32 31)).toInt32) &&& 1431655765)).toUInt32 >>> ((2 : Int32).toUInt32 &&& Int32.toUInt32 31)).toInt32) &&& 858993459)))], [.int ((((((nI y) - ((((nI y).toUInt32 >>> ((1 : Int32).toUInt32 &&& Int32.toUInt32 31)).toInt32) &&& 1431655765)) &&& 858993459) + (((((nI y) - ((((nI y).toUInt32 >>> ((1 : Int32).toUInt32 &&& Int32.toUInt32 31)).toInt32) &&& 1431655765)).toUInt32 >>> ((2 : Int32).toUInt32 &&& Int32.toUInt32 31)).toInt32) &&& 858993459)).toUInt32 >>> ((4 : Int32).toUInt32 &&& Int32.toUInt32 31)).toInt32), .int ((((nI y) - ((((nI y).toUInt32 >>> ((1 : Int32).toUInt32 &&& Int32.toUInt32 31)).toInt32) &&& 1431655765)) &&& 858993459) + (((((nI y) - ((((nI y).toUInt32 >>> ((1 : Int32).toUInt32 &&& Int32.toUInt32 31)).toInt32) &&& 1431655765)).toUInt32 >>> ((2 : Int32).toUInt32 &&& Int32.toUInt32 31)).toInt32) &&& 858993459))], M)) rfl rfl rfl ?_
  refine ps_st (S' := (29, [(0, .int ((((nI y) - ((((nI y).toUInt32 >>> ((1 : Int32).toUInt32 &&& Int32.toUInt32 31)).toInt32) &&& 1431655765)) &&& 858993459) + (((((nI y) - ((((nI y).toUInt32 >>> ((1 : Int32).toUInt32 &&& Int32.toUInt32 31)).toInt32) &&& 1431655765)).toUInt32 >>> ((2 : Int32).toUInt32 &&& Int32.toUInt32 31)).toInt32) &&& 858993459)))], [.int (((((nI y) - ((((nI y).toUInt32 >>> ((1 : Int32).toUInt32 &&& Int32.toUInt32 31)).toInt32) &&& 1431655765)) &&& 858993459) + (((((nI y) - ((((nI y).toUInt32 >>> ((1 : Int32).toUInt32 &&& Int32.toUInt32 31)).toInt32) &&& 1431655765)).toUInt32 >>> ((2 : Int32).toUInt32 &&& Int32.toUInt32 31)).toInt32) &&& 858993459)) + ((((((nI y) - ((((nI y).toUInt32 >>> ((1 : Int32).toUInt32 &&& Int32.toUInt32 31)).toInt32) &&& 1431655765)) &&& 858993459) + (((((nI y) - ((((nI y).toUInt32 >>> ((1 : Int32).toUInt32 &&& Int32.toUInt32 31)).toInt32) &&& 1431655765)).toUInt32 >>> ((2 : Int32).toUInt32 &&& Int32.toUInt32 31)).toInt32) &&& 858993459)).toUInt32 >>> ((4 : Int32).toUInt32 &&& Int32.toUInt32 31)).toInt32))], M)) rfl rfl rfl ?_
  refine ps_st (S' := (32, [(0, .int ((((nI y) - ((((nI y).toUInt32 >>> ((1 : Int32).toUInt32 &&& Int32.toUInt32 31)).toInt32) &&& 1431655765)) &&& 858993459) + (((((nI y) - ((((nI y).toUInt32 >>> ((1 : Int32).toUInt32 &&& Int32.toUInt32 31)).toInt32) &&& 1431655765)).toUInt32 >>> ((2 : Int32).toUInt32 &&& Int32.toUInt32 31)).toInt32) &&& 858993459)))], [.int 252645135, .int (((((nI y) - ((((nI y).toUInt32 >>> ((1 : Int32).toUInt32 &&& Int32.toUInt32 31)).toInt32) &&& 1431655765)) &&& 858993459) + (((((nI y) - ((((nI y).toUInt32 >>> ((1 : Int32).toUInt32 &&& Int32.toUInt32 31)).toInt32) &&& 1431655765)).toUInt32 >>> ((2 : Int32).toUInt32 &&& Int32.toUInt32 31)).toInt32) &&& 858993459)) + ((((((nI y) - ((((nI y).toUInt32 >>> ((1 : Int32).toUInt32 &&& Int32.toUInt32 31)).toInt32) &&& 1431655765)) &&& 858993459) + (((((nI y) - ((((nI y).toUInt32 >>> ((1 : Int32).toUInt32 &&& Int32.toUInt32 31)).toInt32) &&& 1431655765)).toUInt32 >>> ((2 : Int32).toUInt32 &&& Int32.toUInt32 31)).toInt32) &&& 858993459)).toUInt32 >>> ((4 : Int32).toUInt32 &&& Int32.toUInt32 31)).toInt32))], M)) rfl rfl rfl ?_
  refine ps_st (S' := (33, [(0, .int ((((nI y) - ((((nI y).toUInt32 >>> ((1 : Int32).toUInt32 &&& Int32.toUInt32 31)).toInt32) &&& 1431655765)) &&& 858993459) + (((((nI y) - ((((nI y).toUInt32 >>> ((1 : Int32).toUInt32 &&& Int32.toUInt32 31)).toInt32) &&& 1431655765)).toUInt32 >>> ((2 : Int32).toUInt32 &&& Int32.toUInt32 31)).toInt32) &&& 858993459)))], [.int ((((((nI y) - ((((nI y).toUInt32 >>> ((1 : Int32).toUInt32 &&& Int32.toUInt32 31)).toInt32) &&& 1431655765)) &&& 858993459) + (((((nI y) - ((((nI y).toUInt32 >>> ((1 : Int32).toUInt32 &&& Int32.toUInt32 31)).toInt32) &&& 1431655765)).toUInt32 >>> ((2 : Int32).toUInt32 &&& Int32.toUInt32 31)).toInt32) &&& 858993459)) + ((((((nI y) - ((((nI y).toUInt32 >>> ((1 : Int32).toUInt32 &&& Int32.toUInt32 31)).toInt32) &&& 1431655765)) &&& 858993459) + (((((nI y) - ((((nI y).toUInt32 >>> ((1 : Int32).toUInt32 &&& Int32.toUInt32 31)).toInt32) &&& 1431655765)).toUInt32 >>> ((2 : Int32).toUInt32 &&& Int32.toUInt32 31)).toInt32) &&& 858993459)).toUInt32 >>> ((4 : Int32).toUInt32 &&& Int32.toUInt32 31)).toInt32)) &&& 252645135)], M)) rfl rfl rfl ?_
  refine ps_st (S' := (34, [(0, .int ((((((nI y) - ((((nI y).toUInt32 >>> ((1 : Int32).toUInt32 &&& Int32.toUInt32 31)).toInt32) &&& 1431655765)) &&& 858993459) + (((((nI y) - ((((nI y).toUInt32 >>> ((1 : Int32).toUInt32 &&& Int32.toUInt32 31)).toInt32) &&& 1431655765)).toUInt32 >>> ((2 : Int32).toUInt32 &&& Int32.toUInt32 31)).toInt32) &&& 858993459)) + ((((((nI y) - ((((nI y).toUInt32 >>> ((1 : Int32).toUInt32 &&& Int32.toUInt32 31)).toInt32) &&& 1431655765)) &&& 858993459) + (((((nI y) - ((((nI y).toUInt32 >>> ((1 : Int32).toUInt32 &&& Int32.toUInt32 31)).toInt32) &&& 1431655765)).toUInt32 >>> ((2 : Int32).toUInt32 &&& Int32.toUInt32 31)).toInt32) &&& 858993459)).toUInt32 >>> ((4 : Int32).toUInt32 &&& Int32.toUInt32 31)).toInt32)) &&& 252645135))], [], M)) rfl rfl rfl ?_
  refine ps_st (S' := (35, [(0, .int ((((((nI y) - ((((nI y).toUInt32 >>> ((1 : Int32).toUInt32 &&& Int32.toUInt32 31)).toInt32) &&& 1431655765)) &&& 858993459) + (((((nI y) - ((((nI y).toUInt32 >>> ((1 : Int32).toUInt32 &&& Int32.toUInt32 31)).toInt32) &&& 1431655765)).toUInt32 >>> ((2 : Int32).toUInt32 &&& Int32.toUInt32 31)).toInt32) &&& 858993459)) + ((((((nI y) - ((((nI y).toUInt32 >>> ((1 : Int32).toUInt32 &&& Int32.toUInt32 31)).toInt32) &&& 1431655765)) &&& 858993459) + (((((nI y) - ((((nI y).toUInt32 >>> ((1 : Int32).toUInt32 &&& Int32.toUInt32 31)).toInt32) &&& 1431655765)).toUInt32 >>> ((2 : Int32).toUInt32 &&& Int32.toUInt32 31)).toInt32) &&& 858993459)).toUInt32 >>> ((4 : Int32).toUInt32 &&& Int32.toUInt32 31)).toInt32)) &&& 252645135))], [.int ((((((nI y) - ((((nI y).toUInt32 >>> ((1 : Int32).toUInt32 &&& Int32.toUInt32 31)).toInt32) &&& 1431655765)) &&& 858993459) + (((((nI y) - ((((nI y).toUInt32 >>> ((1 : Int32).toUInt32 &&& Int32.toUInt32 31)).toInt32) &&& 1431655765)).toUInt32 >>> ((2 : Int32).toUInt32 &&& Int32.toUInt32 31)).toInt32) &&& 858993459)) + ((((((nI y) - ((((nI y).toUInt32 >>> ((1 : Int32).toUInt32 &&& Int32.toUInt32 31)).toInt32) &&& 1431655765)) &&& 858993459) + (((((nI y) - ((((nI y).toUInt32 >>> ((1 : Int32).toUInt32 &&& Int32.toUInt32 31)).toInt32) &&& 1431655765)).toUInt32 >>> ((2 : Int32).toUInt32 &&& Int32.toUInt32 31)).toInt32) &&& 858993459)).toUInt32 >>> ((4 : Int32).toUInt32 &&& Int32.toUInt32 31)).toInt32)) &&& 252645135)], M)) rfl rfl rfl ?_
  refine ps_st (S' := (36, [(0, .int ((((((nI y) - ((((nI y).toUInt32 >>> ((1 : Int32).toUInt32 &&& Int32.toUInt32 31)).toInt32) &&& 1431655765)) &&& 858993459) + (((((nI y) - ((((nI y).toUInt32 >>> ((1 : Int32).toUInt32 &&& Int32.toUInt32 31)).toInt32) &&& 1431655765)).toUInt32 >>> ((2 : Int32).toUInt32 &&& Int32.toUInt32 31)).toInt32) &&& 858993459)) + ((((((nI y) - ((((nI y).toUInt32 >>> ((1 : Int32).toUInt32 &&& Int32.toUInt32 31)).toInt32) &&& 1431655765)) &&& 858993459) + (((((nI y) - ((((nI y).toUInt32 >>> ((1 : Int32).toUInt32 &&& Int32.toUInt32 31)).toInt32) &&& 1431655765)).toUInt32 >>> ((2 : Int32).toUInt32 &&& Int32.toUInt32 31)).toInt32) &&& 858993459)).toUInt32 >>> ((4 : Int32).toUInt32 &&& Int32.toUInt32 31)).toInt32)) &&& 252645135))], [.int ((((((nI y) - ((((nI y).toUInt32 >>> ((1 : Int32).toUInt32 &&& Int32.toUInt32 31)).toInt32) &&& 1431655765)) &&& 858993459) + (((((nI y) - ((((nI y).toUInt32 >>> ((1 : Int32).toUInt32 &&& Int32.toUInt32 31)).toInt32) &&& 1431655765)).toUInt32 >>> ((2 : Int32).toUInt32 &&& Int32.toUInt32 31)).toInt32) &&& 858993459)) + ((((((nI y) - ((((nI y).toUInt32 >>> ((1 : Int32).toUInt32 &&& Int32.toUInt32 31)).toInt32) &&& 1431655765)) &&& 858993459) + (((((nI y) - ((((nI y).toUInt32 >>> ((1 : Int32).toUInt32 &&& Int32.toUInt32 31)).toInt32) &&& 1431655765)).toUInt32 >>> ((2 : Int32).toUInt32 &&& Int32.toUInt32 31)).toInt32) &&& 858993459)).toUInt32 >>> ((4 : Int32).toUInt32 &&& Int32.toUInt32 31)).toInt32)) &&& 252645135), .int ((((((nI y) - ((((nI y).toUInt32 >>> ((1 : Int32).toUInt32 &&& Int32.toUInt32 31)).toInt32) &&& 1431655765)) &&& 858993459) + (((((nI y) - ((((nI y).toUInt32 >>> ((1 : Int32).toUInt32 &&& Int32.toUInt32 31)).toInt32) &&& 1431655765)).toUInt32 >>> ((2 : Int32).toUInt32 &&& Int32.toUInt32 31)).toInt32) &&& 858993459)) + ((((((nI y) - ((((nI y).toUInt32 >>> ((1 : Int32).toUInt32 &&& Int32.toUInt32 31)).toInt32) &&& 1431655765)) &&& 858993459) + (((((nI y) - ((((nI y).toUInt32 >>> ((1 : Int32).toUInt32 &&& Int32.toUInt32 31)).toInt32) &&& 1431655765)).toUInt32 >>> ((2 : Int32).toUInt32 &&& Int32.toUInt32 31)).toInt32) &&& 858993459)).toUInt32 >>> ((4 : Int32).toUInt32 &&& Int32.toUInt32 31)).toInt32)) &&& 252645135)], M)) rfl rfl rfl ?_
  refine ps_st (S' := (38, [(0, .int ((((((nI y) - ((((nI y).toUInt32 >>> ((1 : Int32).toUInt32 &&& Int32.toUInt32 31)).toInt32) &&& 1431655765)) &&& 858993459) + (((((nI y) - ((((nI y).toUInt32 >>> ((1 : Int32).toUInt32 &&& Int32.toUInt32 31)).toInt32) &&& 1431655765)).toUInt32 >>> ((2 : Int32).toUInt32 &&& Int32.toUInt32 31)).toInt32) &&& 858993459)) + ((((((nI y) - ((((nI y).toUInt32 >>> ((1 : Int32).toUInt32 &&& Int32.toUInt32 31)).toInt32) &&& 1431655765)) &&& 858993459) + (((((nI y) - ((((nI y).toUInt32 >>> ((1 : Int32).toUInt32 &&& Int32.toUInt32 31)).toInt32) &&& 1431655765)).toUInt32 >>> ((2 : Int32).toUInt32 &&& Int32.toUInt32 31)).toInt32) &&& 858993459)).toUInt32 >>> ((4 : Int32).toUInt32 &&& Int32.toUInt32 31)).toInt32)) &&& 252645135))], [.int 8, .int ((((((nI y) - ((((nI y).toUInt32 >>> ((1 : Int32).toUInt32 &&& Int32.toUInt32 31)).toInt32) &&& 1431655765)) &&& 858993459) + (((((nI y) - ((((nI y).toUInt32 >>> ((1 : Int32).toUInt32 &&& Int32.toUInt32 31)).toInt32) &&& 1431655765)).toUInt32 >>> ((2 : Int32).toUInt32 &&& Int32.toUInt32 31)).toInt32) &&& 858993459)) + ((((((nI y) - ((((nI y).toUInt32 >>> ((1 : Int32).toUInt32 &&& Int32.toUInt32 31)).toInt32) &&& 1431655765)) &&& 858993459) + (((((nI y) - ((((nI y).toUInt32 >>> ((1 : Int32).toUInt32 &&& Int32.toUInt32 31)).toInt32) &&& 1431655765)).toUInt32 >>> ((2 : Int32).toUInt32 &&& Int32.toUInt32 31)).toInt32) &&& 858993459)).toUInt32 >>> ((4 : Int32).toUInt32 &&& Int32.toUInt32 31)).toInt32)) &&& 252645135), .int ((((((nI y) - ((((nI y).toUInt32 >>> ((1 : Int32).toUInt32 &&& Int32.toUInt32 31)).toInt32) &&& 1431655765)) &&& 858993459) + (((((nI y) - ((((nI y).toUInt32 >>> ((1 : Int32).toUInt32 &&& Int32.toUInt32 31)).toInt32) &&& 1431655765)).toUInt32 >>> ((2 : Int32).toUInt32 &&& Int32.toUInt32 31)).toInt32) &&& 858993459)) + ((((((nI y) - ((((nI y).toUInt32 >>> ((1 : Int32).toUInt32 &&& Int32.toUInt32 31)).toInt32) &&& 1431655765)) &&& 858993459) + (((((nI y) - ((((nI y).toUInt32 >>> ((1 : Int32).toUInt32 &&& Int32.toUInt32 31)).toInt32) &&& 1431655765)).toUInt32 >>> ((2 : Int32).toUInt32 &&& Int32.toUInt32 31)).toInt32) &&& 858993459)).toUInt32 >>> ((4 : Int32).toUInt32 &&& Int32.toUInt32 31)).toInt32)) &&& 252645135)], M)) rfl rfl rfl ?_
  refine ps_st (S' := (39, [(0, .int ((((((nI y) - ((((nI y).toUInt32 >>> ((1 : Int32).toUInt32 &&& Int32.toUInt32 31)).toInt32) &&& 1431655765)) &&& 858993459) + (((((nI y) - ((((nI y).toUInt32 >>> ((1 : Int32).toUInt32 &&& Int32.toUInt32 31)).toInt32) &&& 1431655765)).toUInt32 >>> ((2 : Int32).toUInt32 &&& Int32.toUInt32 31)).toInt32) &&& 858993459)) + ((((((nI y) - ((((nI y).toUInt32 >>> ((1 : Int32).toUInt32 &&& Int32.toUInt32 31)).toInt32) &&& 1431655765)) &&& 858993459) + (((((nI y) - ((((nI y).toUInt32 >>> ((1 : Int32).toUInt32 &&& Int32.toUInt32 31)).toInt32) &&& 1431655765)).toUInt32 >>> ((2 : Int32).toUInt32 &&& Int32.toUInt32 31)).toInt32) &&& 858993459)).toUInt32 >>> ((4 : Int32).toUInt32 &&& Int32.toUInt32 31)).toInt32)) &&& 252645135))], [.int ((((((((nI y) - ((((nI y).toUInt32 >>> ((1 : Int32).toUInt32 &&& Int32.toUInt32 31)).toInt32) &&& 1431655765)) &&& 858993459) + (((((nI y) - ((((nI y).toUInt32 >>> ((1 : Int32).toUInt32 &&& Int32.toUInt32 31)).toInt32) &&& 1431655765)).toUInt32 >>> ((2 : Int32).toUInt32 &&& Int32.toUInt32 31)).toInt32) &&& 858993459)) + ((((((nI y) - ((((nI y).toUInt32 >>> ((1 : Int32).toUInt32 &&& Int32.toUInt32 31)).toInt32) &&& 1431655765)) &&& 858993459) + (((((nI y) - ((((nI y).toUInt32 >>> ((1 : Int32).toUInt32 &&& Int32.toUInt32 31)).toInt32) &&& 1431655765)).toUInt32 >>> ((2 : Int32).toUInt32 &&& Int32.toUInt32 31)).toInt32) &&& 858993459)).toUInt32 >>> ((4 : Int32).toUInt32 &&& Int32.toUInt32 31)).toInt32)) &&& 252645135).toUInt32 >>> ((8 : Int32).toUInt32 &&& Int32.toUInt32 31)).toInt32), .int ((((((nI y) - ((((nI y).toUInt32 >>> ((1 : Int32).toUInt32 &&& Int32.toUInt32 31)).toInt32) &&& 1431655765)) &&& 858993459) + (((((nI y) - ((((nI y).toUInt32 >>> ((1 : Int32).toUInt32 &&& Int32.toUInt32 31)).toInt32) &&& 1431655765)).toUInt32 >>> ((2 : Int32).toUInt32 &&& Int32.toUInt32 31)).toInt32) &&& 858993459)) + ((((((nI y) - ((((nI y).toUInt32 >>> ((1 : Int32).toUInt32 &&& Int32.toUInt32 31)).toInt32) &&& 1431655765)) &&& 858993459) + (((((nI y) - ((((nI y).toUInt32 >>> ((1 : Int32).toUInt32 &&& Int32.toUInt32 31)).toInt32) &&& 1431655765)).toUInt32 >>> ((2 : Int32).toUInt32 &&& Int32.toUInt32 31)).toInt32) &&& 858993459)).toUInt32 >>> ((4 : Int32).toUInt32 &&& Int32.toUInt32 31)).toInt32)) &&& 252645135)], M)) rfl rfl rfl ?_
  refine ps_st (S' := (40, [(0, .int ((((((nI y) - ((((nI y).toUInt32 >>> ((1 : Int32).toUInt32 &&& Int32.toUInt32 31)).toInt32) &&& 1431655765)) &&& 858993459) + (((((nI y) - ((((nI y).toUInt32 >>> ((1 : Int32).toUInt32 &&& Int32.toUInt32 31)).toInt32) &&& 1431655765)).toUInt32 >>> ((2 : Int32).toUInt32 &&& Int32.toUInt32 31)).toInt32) &&& 858993459)) + ((((((nI y) - ((((nI y).toUInt32 >>> ((1 : Int32).toUInt32 &&& Int32.toUInt32 31)).toInt32) &&& 1431655765)) &&& 858993459) + (((((nI y) - ((((nI y).toUInt32 >>> ((1 : Int32).toUInt32 &&& Int32.toUInt32 31)).toInt32) &&& 1431655765)).toUInt32 >>> ((2 : Int32).toUInt32 &&& Int32.toUInt32 31)).toInt32) &&& 858993459)).toUInt32 >>> ((4 : Int32).toUInt32 &&& Int32.toUInt32 31)).toInt32)) &&& 252645135))], [.int (((((((nI y) - ((((nI y).toUInt32 >>> ((1 : Int32).toUInt32 &&& Int32.toUInt32 31)).toInt32) &&& 1431655765)) &&& 858993459) + (((((nI y) - ((((nI y).toUInt32 >>> ((1 : Int32).toUInt32 &&& Int32.toUInt32 31)).toInt32) &&& 1431655765)).toUInt32 >>> ((2 : Int32).toUInt32 &&& Int32.toUInt32 31)).toInt32) &&& 858993459)) + ((((((nI y) - ((((nI y).toUInt32 >>> ((1 : Int32).toUInt32 &&& Int32.toUInt32 31)).toInt32) &&& 1431655765)) &&& 858993459) + (((((nI y) - ((((nI y).toUInt32 >>> ((1 : Int32).toUInt32 &&& Int32.toUInt32 31)).toInt32) &&& 1431655765)).toUInt32 >>> ((2 : Int32).toUInt32 &&& Int32.toUInt32 31)).toInt32) &&& 858993459)).toUInt32 >>> ((4 : Int32).toUInt32 &&& Int32.toUInt32 31)).toInt32)) &&& 252645135) + ((((((((nI y) - ((((nI y).toUInt32 >>> ((1 : Int32).toUInt32 &&& Int32.toUInt32 31)).toInt32) &&& 1431655765)) &&& 858993459) + (((((nI y) - ((((nI y).toUInt32 >>> ((1 : Int32).toUInt32 &&& Int32.toUInt32 31)).toInt32) &&& 1431655765)).toUInt32 >>> ((2 : Int32).toUInt32 &&& Int32.toUInt32 31)).toInt32) &&& 858993459)) + ((((((nI y) - ((((nI y).toUInt32 >>> ((1 : Int32).toUInt32 &&& Int32.toUInt32 31)).toInt32) &&& 1431655765)) &&& 858993459) + (((((nI y) - ((((nI y).toUInt32 >>> ((1 : Int32).toUInt32 &&& Int32.toUInt32 31)).toInt32) &&& 1431655765)).toUInt32 >>> ((2 : Int32).toUInt32 &&& Int32.toUInt32 31)).toInt32) &&& 858993459)).toUInt32 >>> ((4 : Int32).toUInt32 &&& Int32.toUInt32 31)).toInt32)) &&& 252645135).toUInt32 >>> ((8 : Int32).toUInt32 &&& Int32.toUInt32 31)).toInt32))], M)) rfl rfl rfl ?_
  refine ps_st (S' := (41, [(0, .int (((((((nI y) - ((((nI y).toUInt32 >>> ((1 : Int32).toUInt32 &&& Int32.toUInt32 31)).toInt32) &&& 1431655765)) &&& 858993459) + (((((nI y) - ((((nI y).toUInt32 >>> ((1 : Int32).toUInt32 &&& Int32.toUInt32 31)).toInt32) &&& 1431655765)).toUInt32 >>> ((2 : Int32).toUInt32 &&& Int32.toUInt32 31)).toInt32) &&& 858993459)) + ((((((nI y) - ((((nI y).toUInt32 >>> ((1 : Int32).toUInt32 &&& Int32.toUInt32 31)).toInt32) &&& 1431655765)) &&& 858993459) + (((((nI y) - ((((nI y).toUInt32 >>> ((1 : Int32).toUInt32 &&& Int32.toUInt32 31)).toInt32) &&& 1431655765)).toUInt32 >>> ((2 : Int32).toUInt32 &&& Int32.toUInt32 31)).toInt32) &&& 858993459)).toUInt32 >>> ((4 : Int32).toUInt32 &&& Int32.toUInt32 31)).toInt32)) &&& 252645135) + ((((((((nI y) - ((((nI y).toUInt32 >>> ((1 : Int32).toUInt32 &&& Int32.toUInt32 31)).toInt32) &&& 1431655765)) &&& 858993459) + (((((nI y) - ((((nI y).toUInt32 >>> ((1 : Int32).toUInt32 &&& Int32.toUInt32 31)).toInt32) &&& 1431655765)).toUInt32 >>> ((2 : Int32).toUInt32 &&& Int32.toUInt32 31)).toInt32) &&& 858993459)) + ((((((nI y) - ((((nI y).toUInt32 >>> ((1 : Int32).toUInt32 &&& Int32.toUInt32 31)).toInt32) &&& 1431655765)) &&& 858993459) + (((((nI y) - ((((nI y).toUInt32 >>> ((1 : Int32).toUInt32 &&& Int32.toUInt32 31)).toInt32) &&& 1431655765)).toUInt32 >>> ((2 : Int32).toUInt32 &&& Int32.toUInt32 31)).toInt32) &&& 858993459)).toUInt32 >>> ((4 : Int32).toUInt32 &&& Int32.toUInt32 31)).toInt32)) &&& 252645135).toUInt32 >>> ((8 : Int32).toUInt32 &&& Int32.toUInt32 31)).toInt32)))], [], M)) rfl rfl rfl ?_
  refine ps_st (S' := (42, [(0, .int (((((((nI y) - ((((nI y).toUInt32 >>> ((1 : Int32).toUInt32 &&& Int32.toUInt32 31)).toInt32) &&& 1431655765)) &&& 858993459) + (((((nI y) - ((((nI y).toUInt32 >>> ((1 : Int32).toUInt32 &&& Int32.toUInt32 31)).toInt32) &&& 1431655765)).toUInt32 >>> ((2 : Int32).toUInt32 &&& Int32.toUInt32 31)).toInt32) &&& 858993459)) + ((((((nI y) - ((((nI y).toUInt32 >>> ((1 : Int32).toUInt32 &&& Int32.toUInt32 31)).toInt32) &&& 1431655765)) &&& 858993459) + (((((nI y) - ((((nI y).toUInt32 >>> ((1 : Int32).toUInt32 &&& Int32.toUInt32 31)).toInt32) &&& 1431655765)).toUInt32 >>> ((2 : Int32).toUInt32 &&& Int32.toUInt32 31)).toInt32) &&& 858993459)).toUInt32 >>> ((4 : Int32).toUInt32 &&& Int32.toUInt32 31)).toInt32)) &&& 252645135) + ((((((((nI y) - ((((nI y).toUInt32 >>> ((1 : Int32).toUInt32 &&& Int32.toUInt32 31)).toInt32) &&& 1431655765)) &&& 858993459) + (((((nI y) - ((((nI y).toUInt32 >>> ((1 : Int32).toUInt32 &&& Int32.toUInt32 31)).toInt32) &&& 1431655765)).toUInt32 >>> ((2 : Int32).toUInt32 &&& Int32.toUInt32 31)).toInt32) &&& 858993459)) + ((((((nI y) - ((((nI y).toUInt32 >>> ((1 : Int32).toUInt32 &&& Int32.toUInt32 31)).toInt32) &&& 1431655765)) &&& 858993459) + (((((nI y) - ((((nI y).toUInt32 >>> ((1 : Int32).toUInt32 &&& Int32.toUInt32 31)).toInt32) &&& 1431655765)).toUInt32 >>> ((2 : Int32).toUInt32 &&& Int32.toUInt32 31)).toInt32) &&& 858993459)).toUInt32 >>> ((4 : Int32).toUInt32 &&& Int32.toUInt32 31)).toInt32)) &&& 252645135).toUInt32 >>> ((8 : Int32).toUInt32 &&& Int32.toUInt32 31)).toInt32)))], [.int (((((((nI y) - ((((nI y).toUInt32 >>> ((1 : Int32).toUInt32 &&& Int32.toUInt32 31)).toInt32) &&& 1431655765)) &&& 858993459) + (((((nI y) - ((((nI y).toUInt32 >>> ((1 : Int32).toUInt32 &&& Int32.toUInt32 31)).toInt32) &&& 1431655765)).toUInt32 >>> ((2 : Int32).toUInt32 &&& Int32.toUInt32 31)).toInt32) &&& 858993459)) + ((((((nI y) - ((((nI y).toUInt32 >>> ((1 : Int32).toUInt32 &&& Int32.toUInt32 31)).toInt32) &&& 1431655765)) &&& 858993459) + (((((nI y) - ((((nI y).toUInt32 >>> ((1 : Int32).toUInt32 &&& Int32.toUInt32 31)).toInt32) &&& 1431655765)).toUInt32 >>> ((2 : Int32).toUInt32 &&& Int32.toUInt32 31)).toInt32) &&& 858993459)).toUInt32 >>> ((4 : Int32).toUInt32 &&& Int32.toUInt32 31)).toInt32)) &&& 252645135) + ((((((((nI y) - ((((nI y).toUInt32 >>> ((1 : Int32).toUInt32 &&& Int32.toUInt32 31)).toInt32) &&& 1431655765)) &&& 858993459) + (((((nI y) - ((((nI y).toUInt32 >>> ((1 : Int32).toUInt32 &&& Int32.toUInt32 31)).toInt32) &&& 1431655765)).toUInt32 >>> ((2 : Int32).toUInt32 &&& Int32.toUInt32 31)).toInt32) &&& 858993459)) + ((((((nI y) - ((((nI y).toUInt32 >>> ((1 : Int32).toUInt32 &&& Int32.toUInt32 31)).toInt32) &&& 1431655765)) &&& 858993459) + (((((nI y) - ((((nI y).toUInt32 >>> ((1 : Int32).toUInt32 &&& Int32.toUInt32 31)).toInt32) &&& 1431655765)).toUInt32 >>> ((2 : Int32).toUInt32 &&& Int32.toUInt32 31)).toInt32) &&& 858993459)).toUInt32 >>> ((4 : Int32).toUInt32 &&& Int32.toUInt32 31)).toInt32)) &&& 252645135).toUInt32 >>> ((8 : Int32).toUInt32 &&& Int32.toUInt32 31)).toInt32))], M)) rfl rfl rfl ?_
  refine ps_st (S' := (43, [(0, .int (((((((nI y) - ((((nI y).toUInt32 >>> ((1 : Int32).toUInt32 &&& Int32.toUInt32 31)).toInt32) &&& 1431655765)) &&& 858993459) + (((((nI y) - ((((nI y).toUInt32 >>> ((1 : Int32).toUInt32 &&& Int32.toUInt32 31)).toInt32) &&& 1431655765)).toUInt32 >>> ((2 : Int32).toUInt32 &&& Int32.toUInt32 31)).toInt32) &&& 858993459)) + ((((((nI y) - ((((nI y).toUInt32 >>> ((1 : Int32).toUInt32 &&& Int32.toUInt32 31)).toInt32) &&& 1431655765)) &&& 858993459) + (((((nI y) - ((((nI y).toUInt32 >>> ((1 : Int32).toUInt32 &&& Int32.toUInt32 31)).toInt32) &&& 1431655765)).toUInt32 >>> ((2 : Int32).toUInt32 &&& Int32.toUInt32 31)).toInt32) &&& 858993459)).toUInt32 >>> ((4 : Int32).toUInt32 &&& Int32.toUInt32 31)).toInt32)) &&& 252645135) + ((((((((nI y) - ((((nI y).toUInt32 >>> ((1 : Int32).toUInt32 &&& Int32.toUInt32 31)).toInt32) &&& 1431655765)) &&& 858993459) + (((((nI y) - ((((nI y).toUInt32 >>> ((1 : Int32).toUInt32 &&& Int32.toUInt32 31)).toInt32) &&& 1431655765)).toUInt32 >>> ((2 : Int32).toUInt32 &&& Int32.toUInt32 31)).toInt32) &&& 858993459)) + ((((((nI y) - ((((nI y).toUInt32 >>> ((1 : Int32).toUInt32 &&& Int32.toUInt32 31)).toInt32) &&& 1431655765)) &&& 858993459) + (((((nI y) - ((((nI y).toUInt32 >>> ((1 : Int32).toUInt32 &&& Int32.toUInt32 31)).toInt32) &&& 1431655765)).toUInt32 >>> ((2 : Int32).toUInt32 &&& Int32.toUInt32 31)).toInt32) &&& 858993459)).toUInt32 >>> ((4 : Int32).toUInt32 &&& Int32.toUInt32 31)).toInt32)) &&& 252645135).toUInt32 >>> ((8 : Int32).toUInt32 &&& Int32.toUInt32 31)).toInt32)))], [.int (((((((nI y) - ((((nI y).toUInt32 >>> ((1 : Int32).toUInt32 &&& Int32.toUInt32 31)).toInt32) &&& 1431655765)) &&& 858993459) + (((((nI y) - ((((nI y).toUInt32 >>> ((1 : Int32).toUInt32 &&& Int32.toUInt32 31)).toInt32) &&& 1431655765)).toUInt32 >>> ((2 : Int32).toUInt32 &&& Int32.toUInt32 31)).toInt32) &&& 858993459)) + ((((((nI y) - ((((nI y).toUInt32 >>> ((1 : Int32).toUInt32 &&& Int32.toUInt32 31)).toInt32) &&& 1431655765)) &&& 858993459) + (((((nI y) - ((((nI y).toUInt32 >>> ((1 : Int32).toUInt32 &&& Int32.toUInt32 31)).toInt32) &&& 1431655765)).toUInt32 >>> ((2 : Int32).toUInt32 &&& Int32.toUInt32 31)).toInt32) &&& 858993459)).toUInt32 >>> ((4 : Int32).toUInt32 &&& Int32.toUInt32 31)).toInt32)) &&& 252645135) + ((((((((nI y) - ((((nI y).toUInt32 >>> ((1 : Int32).toUInt32 &&& Int32.toUInt32 31)).toInt32) &&& 1431655765)) &&& 858993459) + (((((nI y) - ((((nI y).toUInt32 >>> ((1 : Int32).toUInt32 &&& Int32.toUInt32 31)).toInt32) &&& 1431655765)).toUInt32 >>> ((2 : Int32).toUInt32 &&& Int32.toUInt32 31)).toInt32) &&& 858993459)) + ((((((nI y) - ((((nI y).toUInt32 >>> ((1 : Int32).toUInt32 &&& Int32.toUInt32 31)).toInt32) &&& 1431655765)) &&& 858993459) + (((((nI y) - ((((nI y).toUInt32 >>> ((1 : Int32).toUInt32 &&& Int32.toUInt32 31)).toInt32) &&& 1431655765)).toUInt32 >>> ((2 : Int32).toUInt32 &&& Int32.toUInt32 31)).toInt32) &&& 858993459)).toUInt32 >>> ((4 : Int32).toUInt32 &&& Int32.toUInt32 31)).toInt32)) &&& 252645135).toUInt32 >>> ((8 : Int32).toUInt32 &&& Int32.toUInt32 31)).toInt32)), .int (((((((nI y) - ((((nI y).toUInt32 >>> ((1 : Int32).toUInt32 &&& Int32.toUInt32 31)).toInt32) &&& 1431655765)) &&& 858993459) + (((((nI y) - ((((nI y).toUInt32 >>> ((1 : Int32).toUInt32 &&& Int32.toUInt32 31)).toInt32) &&& 1431655765)).toUInt32 >>> ((2 : Int32).toUInt32 &&& Int32.toUInt32 31)).toInt32) &&& 858993459)) + ((((((nI y) - ((((nI y).toUInt32 >>> ((1 : Int32).toUInt32 &&& Int32.toUInt32 31)).toInt32) &&& 1431655765)) &&& 858993459) + (((((nI y) - ((((nI y).toUInt32 >>> ((1 : Int32).toUInt32 &&& Int32.toUInt32 31)).toInt32) &&& 1431655765)).toUInt32 >>> ((2 : Int32).toUInt32 &&& Int32.toUInt32 31)).toInt32) &&& 858993459)).toUInt32 >>> ((4 : Int32).toUInt32 &&& Int32.toUInt32 31)).toInt32)) &&& 252645135) + ((((((((nI y) - ((((nI y).toUInt32 >>> ((1 : Int32).toUInt32 &&& Int32.toUInt32 31)).toInt32) &&& 1431655765)) &&& 858993459) + (((((nI y) - ((((nI y).toUInt32 >>> ((1 : Int32).toUInt32 &&& Int32.toUInt32 31)).toInt32) &&& 1431655765)).toUInt32 >>> ((2 : Int32).toUInt32 &&& Int32.toUInt32 31)).toInt32) &&& 858993459)) + ((((((nI y) - ((((nI y).toUInt32 >>> ((1 : Int32).toUInt32 &&& Int32.toUInt32 31)).toInt32) &&& 1431655765)) &&& 858993459) + (((((nI y) - ((((nI y).toUInt32 >>> ((1 : Int32).toUInt32 &&& Int32.toUInt32 31)).toInt32) &&& 1431655765)).toUInt32 >>> ((2 : Int32).toUInt32 &&& Int32.toUInt32 31)).toInt32) &&& 858993459)).toUInt32 >>> ((4 : Int32).toUInt32 &&& Int32.toUInt32 31)).toInt32)) &&& 252645135).toUInt32 >>> ((8 : Int32).toUInt32 &&& Int32.toUInt32 31)).toInt32))], M)) rfl rfl rfl ?_
  refine ps_st (S' := (45, [(0, .int (((((((nI y) - ((((nI y).toUInt32 >>> ((1 : Int32).toUInt32 &&& Int32.toUInt32 31)).toInt32) &&& 1431655765)) &&& 858993459) + (((((nI y) - ((((nI y).toUInt32 >>> ((1 : Int32).toUInt32 &&& Int32.toUInt32 31)).toInt32) &&& 1431655765)).toUInt32 >>> ((2 : Int32).toUInt32 &&& Int32.toUInt32 31)).toInt32) &&& 858993459)) + ((((((nI y) - ((((nI y).toUInt32 >>> ((1 : Int32).toUInt32 &&& Int32.toUInt32 31)).toInt32) &&& 1431655765)) &&& 858993459) + (((((nI y) - ((((nI y).toUInt32 >>> ((1 : Int32).toUInt32 &&& Int32.toUInt32 31)).toInt32) &&& 1431655765)).toUInt32 >>> ((2 : Int32).toUInt32 &&& Int32.toUInt32 31)).toInt32) &&& 858993459)).toUInt32 >>> ((4 : Int32).toUInt32 &&& Int32.toUInt32 31)).toInt32)) &&& 252645135) + ((((((((nI y) - ((((nI y).toUInt32 >>> ((1 : Int32).toUInt32 &&& Int32.toUInt32 31)).toInt32) &&& 1431655765)) &&& 858993459) + (((((nI y) - ((((nI y).toUInt32 >>> ((1 : Int32).toUInt32 &&& Int32.toUInt32 31)).toInt32) &&& 1431655765)).toUInt32 >>> ((2 : Int32).toUInt32 &&& Int32.toUInt32 31)).toInt32) &&& 858993459)) + ((((((nI y) - ((((nI y).toUInt32 >>> ((1 : Int32).toUInt32 &&& Int32.toUInt32 31)).toInt32) &&& 1431655765)) &&& 858993459) + (((((nI y) - ((((nI y).toUInt32 >>> ((1 : Int32).toUInt32 &&& Int32.toUInt32 31)).toInt32) &&& 1431655765)).toUInt32 >>> ((2 : Int32).toUInt32 &&& Int32.toUInt32 31)).toInt32) &&& 858993459)).toUInt32 >>> ((4 : Int32).toUInt32 &&& Int32.toUInt32 31)).toInt32)) &&& 252645135).toUInt32 >>> ((8 : Int32).toUInt32 &&& Int32.toUInt32 31)).toInt32)))], [.int 16, .int (((((((nI y) - ((((nI y).toUInt32 >>> ((1 : Int32).toUInt32 &&& Int32.toUInt32 31)).toInt32) &&& 1431655765)) &&& 858993459) + (((((nI y) - ((((nI y).toUInt32 >>> ((1 : Int32).toUInt32 &&& Int32.toUInt32 31)).toInt32) &&& 1431655765)).toUInt32 >>> ((2 : Int32).toUInt32 &&& Int32.toUInt32 31)).toInt32) &&& 858993459)) + ((((((nI y) - ((((nI y).toUInt32 >>> ((1 : Int32).toUInt32 &&& Int32.toUInt32 31)).toInt32) &&& 1431655765)) &&& 858993459) + (((((nI y) - ((((nI y).toUInt32 >>> ((1 : Int32).toUInt32 &&& Int32.toUInt32 31)).toInt32) &&& 1431655765)).toUInt32 >>> ((2 : Int32).toUInt32 &&& Int32.toUInt32 31)).toInt32) &&& 858993459)).toUInt32 >>> ((4 : Int32).toUInt32 &&& Int32.toUInt32 31)).toInt32)) &&& 252645135) + ((((((((nI y) - ((((nI y).toUInt32 >>> ((1 : Int32).toUInt32 &&& Int32.toUInt32 31)).toInt32) &&& 1431655765)) &&& 858993459) + (((((nI y) - ((((nI y).toUInt32 >>> ((1 : Int32).toUInt32 &&& Int32.toUInt32 31)).toInt32) &&& 1431655765)).toUInt32 >>> ((2 : Int32).toUInt32 &&& Int32.toUInt32 31)).toInt32) &&& 858993459)) + ((((((nI y) - ((((nI y).toUInt32 >>> ((1 : Int32).toUInt32 &&& Int32.toUInt32 31)).toInt32) &&& 1431655765)) &&& 858993459) + (((((nI y) - ((((nI y).toUInt32 >>> ((1 : Int32).toUInt32 &&& Int32.toUInt32 31)).toInt32) &&& 1431655765)).toUInt32 >>> ((2 : Int32).toUInt32 &&& Int32.toUInt32 31)).toInt32) &&& 858993459)).toUInt32 >>> ((4 : Int32).toUInt32 &&& Int32.toUInt32 31)).toInt32)) &&& 252645135).toUInt32 >>> ((8 : Int32).toUInt32 &&& Int32.toUInt32 31)).toInt32)), .int (((((((nI y) - ((((nI y).toUInt32 >>> ((1 : Int32).toUInt32 &&& Int32.toUInt32 31)).toInt32) &&& 1431655765)) &&& 858993459) + (((((nI y) - ((((nI y).toUInt32 >>> ((1 : Int32).toUInt32 &&& Int32.toUInt32 31)).toInt32) &&& 1431655765)).toUInt32 >>> ((2 : Int32).toUInt32 &&& Int32.toUInt32 31)).toInt32) &&& 858993459)) + ((((((nI y) - ((((nI y).toUInt32 >>> ((1 : Int32).toUInt32 &&& Int32.toUInt32 31)).toInt32) &&& 1431655765)) &&& 858993459) + (((((nI y) - ((((nI y).toUInt32 >>> ((1 : Int32).toUInt32 &&& Int32.toUInt32 31)).toInt32) &&& 1431655765)).toUInt32 >>> ((2 : Int32).toUInt32 &&& Int32.toUInt32 31)).toInt32) &&& 858993459)).toUInt32 >>> ((4 : Int32).toUInt32 &&& Int32.toUInt32 31)).toInt32)) &&& 252645135) + ((((((((nI y) - ((((nI y).toUInt32 >>> ((1 : Int32).toUInt32 &&& Int32.toUInt32 31)).toInt32) &&& 1431655765)) &&& 858993459) + (((((nI y) - ((((nI y).toUInt32 >>> ((1 : Int32).toUInt32 &&& Int32.toUInt32 31)).toInt32) &&& 1431655765)).toUInt32 >>> ((2 : Int32).toUInt32 &&& Int32.toUInt32 31)).toInt32) &&& 858993459)) + ((((((nI y) - ((((nI y).toUInt32 >>> ((1 : Int32).toUInt32 &&& Int32.toUInt32 31)).toInt32) &&& 1431655765)) &&& 858993459) + (((((nI y) - ((((nI y).toUInt32 >>> ((1 : Int32).toUInt32 &&& Int32.toUInt32 31)).toInt32) &&& 1431655765)).toUInt32 >>> ((2 : Int32).toUInt32 &&& Int32.toUInt32 31)).toInt32) &&& 858993459)).toUInt32 >>> ((4 : Int32).toUInt32 &&& Int32.toUInt32 31)).toInt32)) &&& 252645135).toUInt32 >>> ((8 : Int32).toUInt32 &&& Int32.toUInt32 31)).toInt32))], M)) rfl rfl rfl ?_
  refine ps_st (S' := (46, [(0, .int (((((((nI y) - ((((nI y).toUInt32 >>> ((1 : Int32).toUInt32 &&& Int32.toUInt32 31)).toInt32) &&& 1431655765)) &&& 858993459) + (((((nI y) - ((((nI y).toUInt32 >>> ((1 : Int32).toUInt32 &&& Int32.toUInt32 31)).toInt32) &&& 1431655765)).toUInt32 >>> ((2 : Int32).toUInt32 &&& Int32.toUInt32 31)).toInt32) &&& 858993459)) + ((((((nI y) - ((((nI y).toUInt32 >>> ((1 : Int32).toUInt32 &&& Int32.toUInt32 31)).toInt32) &&& 1431655765)) &&& 858993459) + (((((nI y) - ((((nI y).toUInt32 >>> ((1 : Int32).toUInt32 &&& Int32.toUInt32 31)).toInt32) &&& 1431655765)).toUInt32 >>> ((2 : Int32).toUInt32 &&& Int32.toUInt32 31)).toInt32) &&& 858993459)).toUInt32 >>> ((4 : Int32).toUInt32 &&& Int32.toUInt32 31)).toInt32)) &&& 252645135) + ((((((((nI y) - ((((nI y).toUInt32 >>> ((1 : Int32).toUInt32 &&& Int32.toUInt32 31)).toInt32) &&& 1431655765)) &&& 858993459) + (((((nI y) - ((((nI y).toUInt32 >>> ((1 : Int32).toUInt32 &&& Int32.toUInt32 31)).toInt32) &&& 1431655765)).toUInt32 >>> ((2 : Int32).toUInt32 &&& Int32.toUInt32 31)).toInt32) &&& 858993459)) + ((((((nI y) - ((((nI y).toUInt32 >>> ((1 : Int32).toUInt32 &&& Int32.toUInt32 31)).toInt32) &&& 1431655765)) &&& 858993459) + (((((nI y) - ((((nI y).toUInt32 >>> ((1 : Int32).toUInt32 &&& Int32.toUInt32 31)).toInt32) &&& 1431655765)).toUInt32 >>> ((2 : Int32).toUInt32 &&& Int32.toUInt32 31)).toInt32) &&& 858993459)).toUInt32 >>> ((4 : Int32).toUInt32 &&& Int32.toUInt32 31)).toInt32)) &&& 252645135).toUInt32 >>> ((8 : Int32).toUInt32 &&& Int32.toUInt32 31)).toInt32)))], [.int (((((((((nI y) - ((((nI y).toUInt32 >>> ((1 : Int32).toUInt32 &&& Int32.toUInt32 31)).toInt32) &&& 1431655765)) &&& 858993459) + (((((nI y) - ((((nI y).toUInt32 >>> ((1 : Int32).toUInt32 &&& Int32.toUInt32 31)).toInt32) &&& 1431655765)).toUInt32 >>> ((2 : Int32).toUInt32 &&& Int32.toUInt32 31)).toInt32) &&& 858993459)) + ((((((nI y) - ((((nI y).toUInt32 >>> ((1 : Int32).toUInt32 &&& Int32.toUInt32 31)).toInt32) &&& 1431655765)) &&& 858993459) + (((((nI y) - ((((nI y).toUInt32 >>> ((1 : Int32).toUInt32 &&& Int32.toUInt32 31)).toInt32) &&& 1431655765)).toUInt32 >>> ((2 : Int32).toUInt32 &&& Int32.toUInt32 31)).toInt32) &&& 858993459)).toUInt32 >>> ((4 : Int32).toUInt32 &&& Int32.toUInt32 31)).toInt32)) &&& 252645135) + ((((((((nI y) - ((((nI y).toUInt32 >>> ((1 : Int32).toUInt32 &&& Int32.toUInt32 31)).toInt32) &&& 1431655765)) &&& 858993459) + (((((nI y) - ((((nI y).toUInt32 >>> ((1 : Int32).toUInt32 &&& Int32.toUInt32 31)).toInt32) &&& 1431655765)).toUInt32 >>> ((2 : Int32).toUInt32 &&& Int32.toUInt32 31)).toInt32) &&& 858993459)) + ((((((nI y) - ((((nI y).toUInt32 >>> ((1 : Int32).toUInt32 &&& Int32.toUInt32 31)).toInt32) &&& 1431655765)) &&& 858993459) + (((((nI y) - ((((nI y).toUInt32 >>> ((1 : Int32).toUInt32 &&& Int32.toUInt32 31)).toInt32) &&& 1431655765)).toUInt32 >>> ((2 : Int32).toUInt32 &&& Int32.toUInt32 31)).toInt32) &&& 858993459)).toUInt32 >>> ((4 : Int32).toUInt32 &&& Int32.toUInt32 31)).toInt32)) &&& 252645135).toUInt32 >>> ((8 : Int32).toUInt32 &&& Int32.toUInt32 31)).toInt32)).toUInt32 >>> ((16 : Int32).toUInt32 &&& Int32.toUInt32 31)).toInt32), .int (((((((nI y) - ((((nI y).toUInt32 >>> ((1 : Int32).toUInt32 &&& Int32.toUInt32 31)).toInt32) &&& 1431655765)) &&& 858993459) + (((((nI y) - ((((nI y).toUInt32 >>> ((1 : Int32).toUInt32 &&& Int32.toUInt32 31)).toInt32) &&& 1431655765)).toUInt32 >>> ((2 : Int32).toUInt32 &&& Int32.toUInt32 31)).toInt32) &&& 858993459)) + ((((((nI y) - ((((nI y).toUInt32 >>> ((1 : Int32).toUInt32 &&& Int32.toUInt32 31)).toInt32) &&& 1431655765)) &&& 858993459) + (((((nI y) - ((((nI y).toUInt32 >>> ((1 : Int32).toUInt32 &&& Int32.toUInt32 31)).toInt32) &&& 1431655765)).toUInt32 >>> ((2 : Int32).toUInt32 &&& Int32.toUInt32 31)).toInt32) &&& 858993459)).toUInt32 >>> ((4 : Int32).toUInt32 &&& Int32.toUInt32 31)).toInt32)) &&& 252645135) + ((((((((nI y) - ((((nI y).toUInt32 >>> ((1 : Int32).toUInt32 &&& Int32.toUInt32 31)).toInt32) &&& 1431655765)) &&& 858993459) + (((((nI y) - ((((nI y).toUInt32 >>> ((1 : Int32).toUInt32 &&& Int32.toUInt32 31)).toInt32) &&& 1431655765)).toUInt32 >>> ((2 : Int32).toUInt32 &&& Int32.toUInt32 31)).toInt32) &&& 858993459)) + ((((((nI y) - ((((nI y).toUInt32 >>> ((1 : Int32).toUInt32 &&& Int32.toUInt32 31)).toInt32) &&& 1431655765)) &&& 858993459) + (((((nI y) - ((((nI y).toUInt32 >>> ((1 : Int32).toUInt32 &&& Int32.toUInt32 31)).toInt32) &&& 1431655765)).toUInt32 >>> ((2 : Int32).toUInt32 &&& Int32.toUInt32 31)).toInt32) &&& 858993459)).toUInt32 >>> ((4 : Int32).toUInt32 &&& Int32.toUInt32 31)).toInt32)) &&& 252645135).toUInt32 >>> ((8 : Int32).toUInt32 &&& Int32.toUInt32 31)).toInt32))], M)) rfl rfl rfl ?_
  refine ps_st (S' := (47, [(0, .int (((((((nI y) - ((((nI y).toUInt32 >>> ((1 : Int32).toUInt32 &&& Int32.toUInt32 31)).toInt32) &&& 1431655765)) &&& 858993459) + (((((nI y) - ((((nI y).toUInt32 >>> ((1 : Int32).toUInt32 &&& Int32.toUInt32 31)).toInt32) &&& 1431655765)).toUInt32 >>> ((2 : Int32).toUInt32 &&& Int32.toUInt32 31)).toInt32) &&& 858993459)) + ((((((nI y) - ((((nI y).toUInt32 >>> ((1 : Int32).toUInt32 &&& Int32.toUInt32 31)).toInt32) &&& 1431655765)) &&& 858993459) + (((((nI y) - ((((nI y).toUInt32 >>> ((1 : Int32).toUInt32 &&& Int32.toUInt32 31)).toInt32) &&& 1431655765)).toUInt32 >>> ((2 : Int32).toUInt32 &&& Int32.toUInt32 31)).toInt32) &&& 858993459)).toUInt32 >>> ((4 : Int32).toUInt32 &&& Int32.toUInt32 31)).toInt32)) &&& 252645135) + ((((((((nI y) - ((((nI y).toUInt32 >>> ((1 : Int32).toUInt32 &&& Int32.toUInt32 31)).toInt32) &&& 1431655765)) &&& 858993459) + (((((nI y) - ((((nI y).toUInt32 >>> ((1 : Int32).toUInt32 &&& Int32.toUInt32 31)).toInt32) &&& 1431655765)).toUInt32 >>> ((2 : Int32).toUInt32 &&& Int32.toUInt32 31)).toInt32) &&& 858993459)) + ((((((nI y) - ((((nI y).toUInt32 >>> ((1 : Int32).toUInt32 &&& Int32.toUInt32 31)).toInt32) &&& 1431655765)) &&& 858993459) + (((((nI y) - ((((nI y).toUInt32 >>> ((1 : Int32).toUInt32 &&& Int32.toUInt32 31)).toInt32) &&& 1431655765)).toUInt32 >>> ((2 : Int32).toUInt32 &&& Int32.toUInt32 31)).toInt32) &&& 858993459)).toUInt32 >>> ((4 : Int32).toUInt32 &&& Int32.toUInt32 31)).toInt32)) &&& 252645135).toUInt32 >>> ((8 : Int32).toUInt32 &&& Int32.toUInt32 31)).toInt32)))], [.int ((((((((nI y) - ((((nI y).toUInt32 >>> ((1 : Int32).toUInt32 &&& Int32.toUInt32 31)).toInt32) &&& 1431655765)) &&& 858993459) + (((((nI y) - ((((nI y).toUInt32 >>> ((1 : Int32).toUInt32 &&& Int32.toUInt32 31)).toInt32) &&& 1431655765)).toUInt32 >>> ((2 : Int32).toUInt32 &&& Int32.toUInt32 31)).toInt32) &&& 858993459)) + ((((((nI y) - ((((nI y).toUInt32 >>> ((1 : Int32).toUInt32 &&& Int32.toUInt32 31)).toInt32) &&& 1431655765)) &&& 858993459) + (((((nI y) - ((((nI y).toUInt32 >>> ((1 : Int32).toUInt32 &&& Int32.toUInt32 31)).toInt32) &&& 1431655765)).toUInt32 >>> ((2 : Int32).toUInt32 &&& Int32.toUInt32 31)).toInt32) &&& 858993459)).toUInt32 >>> ((4 : Int32).toUInt32 &&& Int32.toUInt32 31)).toInt32)) &&& 252645135) + ((((((((nI y) - ((((nI y).toUInt32 >>> ((1 : Int32).toUInt32 &&& Int32.toUInt32 31)).toInt32) &&& 1431655765)) &&& 858993459) + (((((nI y) - ((((nI y).toUInt32 >>> ((1 : Int32).toUInt32 &&& Int32.toUInt32 31)).toInt32) &&& 1431655765)).toUInt32 >>> ((2 : Int32).toUInt32 &&& Int32.toUInt32 31)).toInt32) &&& 858993459)) + ((((((nI y) - ((((nI y).toUInt32 >>> ((1 : Int32).toUInt32 &&& Int32.toUInt32 31)).toInt32) &&& 1431655765)) &&& 858993459) + (((((nI y) - ((((nI y).toUInt32 >>> ((1 : Int32).toUInt32 &&& Int32.toUInt32 31)).toInt32) &&& 1431655765)).toUInt32 >>> ((2 : Int32).toUInt32 &&& Int32.toUInt32 31)).toInt32) &&& 858993459)).toUInt32 >>> ((4 : Int32).toUInt32 &&& Int32.toUInt32 31)).toInt32)) &&& 252645135).toUInt32 >>> ((8 : Int32).toUInt32 &&& Int32.toUInt32 31)).toInt32)) + (((((((((nI y) - ((((nI y).toUInt32 >>> ((1 : Int32).toUInt32 &&& Int32.toUInt32 31)).toInt32) &&& 1431655765)) &&& 858993459) + (((((nI y) - ((((nI y).toUInt32 >>> ((1 : Int32).toUInt32 &&& Int32.toUInt32 31)).toInt32) &&& 1431655765)).toUInt32 >>> ((2 : Int32).toUInt32 &&& Int32.toUInt32 31)).toInt32) &&& 858993459)) + ((((((nI y) - ((((nI y).toUInt32 >>> ((1 : Int32).toUInt32 &&& Int32.toUInt32 31)).toInt32) &&& 1431655765)) &&& 858993459) + (((((nI y) - ((((nI y).toUInt32 >>> ((1 : Int32).toUInt32 &&& Int32.toUInt32 31)).toInt32) &&& 1431655765)).toUInt32 >>> ((2 : Int32).toUInt32 &&& Int32.toUInt32 31)).toInt32) &&& 858993459)).toUInt32 >>> ((4 : Int32).toUInt32 &&& Int32.toUInt32 31)).toInt32)) &&& 252645135) + ((((((((nI y) - ((((nI y).toUInt32 >>> ((1 : Int32).toUInt32 &&& Int32.toUInt32 31)).toInt32) &&& 1431655765)) &&& 858993459) + (((((nI y) - ((((nI y).toUInt32 >>> ((1 : Int32).toUInt32 &&& Int32.toUInt32 31)).toInt32) &&& 1431655765)).toUInt32 >>> ((2 : Int32).toUInt32 &&& Int32.toUInt32 31)).toInt32) &&& 858993459)) + ((((((nI y) - ((((nI y).toUInt32 >>> ((1 : Int32).toUInt32 &&& Int32.toUInt32 31)).toInt32) &&& 1431655765)) &&& 858993459) + (((((nI y) - ((((nI y).toUInt32 >>> ((1 : Int32).toUInt32 &&& Int32.toUInt32 31)).toInt32) &&& 1431655765)).toUInt32 >>> ((2 : Int32).toUInt32 &&& Int32.toUInt32 31)).toInt32) &&& 858993459)).toUInt32 >>> ((4 : Int32).toUInt32 &&& Int32.toUInt32 31)).toInt32)) &&& 252645135).toUInt32 >>> ((8 : Int32).toUInt32 &&& Int32.toUInt32 31)).toInt32)).toUInt32 >>> ((16 : Int32).toUInt32 &&& Int32.toUInt32 31)).toInt32))], M)) rfl rfl rfl ?_
  refine ps_st (S' := (48, [(0, .int ((((((((nI y) - ((((nI y).toUInt32 >>> ((1 : Int32).toUInt32 &&& Int32.toUInt32 31)).toInt32) &&& 1431655765)) &&& 858993459) + (((((nI y) - ((((nI y).toUInt32 >>> ((1 : Int32).toUInt32 &&& Int32.toUInt32 31)).toInt32) &&& 1431655765)).toUInt32 >>> ((2 : Int32).toUInt32 &&& Int32.toUInt32 31)).toInt32) &&& 858993459)) + ((((((nI y) - ((((nI y).toUInt32 >>> ((1 : Int32).toUInt32 &&& Int32.toUInt32 31)).toInt32) &&& 1431655765)) &&& 858993459) + (((((nI y) - ((((nI y).toUInt32 >>> ((1 : Int32).toUInt32 &&& Int32.toUInt32 31)).toInt32) &&& 1431655765)).toUInt32 >>> ((2 : Int32).toUInt32 &&& Int32.toUInt32 31)).toInt32) &&& 858993459)).toUInt32 >>> ((4 : Int32).toUInt32 &&& Int32.toUInt32 31)).toInt32)) &&& 252645135) + ((((((((nI y) - ((((nI y).toUInt32 >>> ((1 : Int32).toUInt32 &&& Int32.toUInt32 31)).toInt32) &&& 1431655765)) &&& 858993459) + (((((nI y) - ((((nI y).toUInt32 >>> ((1 : Int32).toUInt32 &&& Int32.toUInt32 31)).toInt32) &&& 1431655765)).toUInt32 >>> ((2 : Int32).toUInt32 &&& Int32.toUInt32 31)).toInt32) &&& 858993459)) + ((((((nI y) - ((((nI y).toUInt32 >>> ((1 : Int32).toUInt32 &&& Int32.toUInt32 31)).toInt32) &&& 1431655765)) &&& 858993459) + (((((nI y) - ((((nI y).toUInt32 >>> ((1 : Int32).toUInt32 &&& Int32.toUInt32 31)).toInt32) &&& 1431655765)).toUInt32 >>> ((2 : Int32).toUInt32 &&& Int32.toUInt32 31)).toInt32) &&& 858993459)).toUInt32 >>> ((4 : Int32).toUInt32 &&& Int32.toUInt32 31)).toInt32)) &&& 252645135).toUInt32 >>> ((8 : Int32).toUInt32 &&& Int32.toUInt32 31)).toInt32)) + (((((((((nI y) - ((((nI y).toUInt32 >>> ((1 : Int32).toUInt32 &&& Int32.toUInt32 31)).toInt32) &&& 1431655765)) &&& 858993459) + (((((nI y) - ((((nI y).toUInt32 >>> ((1 : Int32).toUInt32 &&& Int32.toUInt32 31)).toInt32) &&& 1431655765)).toUInt32 >>> ((2 : Int32).toUInt32 &&& Int32.toUInt32 31)).toInt32) &&& 858993459)) + ((((((nI y) - ((((nI y).toUInt32 >>> ((1 : Int32).toUInt32 &&& Int32.toUInt32 31)).toInt32) &&& 1431655765)) &&& 858993459) + (((((nI y) - ((((nI y).toUInt32 >>> ((1 : Int32).toUInt32 &&& Int32.toUInt32 31)).toInt32) &&& 1431655765)).toUInt32 >>> ((2 : Int32).toUInt32 &&& Int32.toUInt32 31)).toInt32) &&& 858993459)).toUInt32 >>> ((4 : Int32).toUInt32 &&& Int32.toUInt32 31)).toInt32)) &&& 252645135) + ((((((((nI y) - ((((nI y).toUInt32 >>> ((1 : Int32).toUInt32 &&& Int32.toUInt32 31)).toInt32) &&& 1431655765)) &&& 858993459) + (((((nI y) - ((((nI y).toUInt32 >>> ((1 : Int32).toUInt32 &&& Int32.toUInt32 31)).toInt32) &&& 1431655765)).toUInt32 >>> ((2 : Int32).toUInt32 &&& Int32.toUInt32 31)).toInt32) &&& 858993459)) + ((((((nI y) - ((((nI y).toUInt32 >>> ((1 : Int32).toUInt32 &&& Int32.toUInt32 31)).toInt32) &&& 1431655765)) &&& 858993459) + (((((nI y) - ((((nI y).toUInt32 >>> ((1 : Int32).toUInt32 &&& Int32.toUInt32 31)).toInt32) &&& 1431655765)).toUInt32 >>> ((2 : Int32).toUInt32 &&& Int32.toUInt32 31)).toInt32) &&& 858993459)).toUInt32 >>> ((4 : Int32).toUInt32 &&& Int32.toUInt32 31)).toInt32)) &&& 252645135).toUInt32 >>> ((8 : Int32).toUInt32 &&& Int32.toUInt32 31)).toInt32)).toUInt32 >>> ((16 : Int32).toUInt32 &&& Int32.toUInt32 31)).toInt32)))], [], M)) rfl rfl rfl ?_
  refine ps_st (S' := (49, [(0, .int ((((((((nI y) - ((((nI y).toUInt32 >>> ((1 : Int32).toUInt32 &&& Int32.toUInt32 31)).toInt32) &&& 1431655765)) &&& 858993459) + (((((nI y) - ((((nI y).toUInt32 >>> ((1 : Int32).toUInt32 &&& Int32.toUInt32 31)).toInt32) &&& 1431655765)).toUInt32 >>> ((2 : Int32).toUInt32 &&& Int32.toUInt32 31)).toInt32) &&& 858993459)) + ((((((nI y) - ((((nI y).toUInt32 >>> ((1 : Int32).toUInt32 &&& Int32.toUInt32 31)).toInt32) &&& 1431655765)) &&& 858993459) + (((((nI y) - ((((nI y).toUInt32 >>> ((1 : Int32).toUInt32 &&& Int32.toUInt32 31)).toInt32) &&& 1431655765)).toUInt32 >>> ((2 : Int32).toUInt32 &&& Int32.toUInt32 31)).toInt32) &&& 858993459)).toUInt32 >>> ((4 : Int32).toUInt32 &&& Int32.toUInt32 31)).toInt32)) &&& 252645135) + ((((((((nI y) - ((((nI y).toUInt32 >>> ((1 : Int32).toUInt32 &&& Int32.toUInt32 31)).toInt32) &&& 1431655765)) &&& 858993459) + (((((nI y) - ((((nI y).toUInt32 >>> ((1 : Int32).toUInt32 &&& Int32.toUInt32 31)).toInt32) &&& 1431655765)).toUInt32 >>> ((2 : Int32).toUInt32 &&& Int32.toUInt32 31)).toInt32) &&& 858993459)) + ((((((nI y) - ((((nI y).toUInt32 >>> ((1 : Int32).toUInt32 &&& Int32.toUInt32 31)).toInt32) &&& 1431655765)) &&& 858993459) + (((((nI y) - ((((nI y).toUInt32 >>> ((1 : Int32).toUInt32 &&& Int32.toUInt32 31)).toInt32) &&& 1431655765)).toUInt32 >>> ((2 : Int32).toUInt32 &&& Int32.toUInt32 31)).toInt32) &&& 858993459)).toUInt32 >>> ((4 : Int32).toUInt32 &&& Int32.toUInt32 31)).toInt32)) &&& 252645135).toUInt32 >>> ((8 : Int32).toUInt32 &&& Int32.toUInt32 31)).toInt32)) + (((((((((nI y) - ((((nI y).toUInt32 >>> ((1 : Int32).toUInt32 &&& Int32.toUInt32 31)).toInt32) &&& 1431655765)) &&& 858993459) + (((((nI y) - ((((nI y).toUInt32 >>> ((1 : Int32).toUInt32 &&& Int32.toUInt32 31)).toInt32) &&& 1431655765)).toUInt32 >>> ((2 : Int32).toUInt32 &&& Int32.toUInt32 31)).toInt32) &&& 858993459)) + ((((((nI y) - ((((nI y).toUInt32 >>> ((1 : Int32).toUInt32 &&& Int32.toUInt32 31)).toInt32) &&& 1431655765)) &&& 858993459) + (((((nI y) - ((((nI y).toUInt32 >>> ((1 : Int32).toUInt32 &&& Int32.toUInt32 31)).toInt32) &&& 1431655765)).toUInt32 >>> ((2 : Int32).toUInt32 &&& Int32.toUInt32 31)).toInt32) &&& 858993459)).toUInt32 >>> ((4 : Int32).toUInt32 &&& Int32.toUInt32 31)).toInt32)) &&& 252645135) + ((((((((nI y) - ((((nI y).toUInt32 >>> ((1 : Int32).toUInt32 &&& Int32.toUInt32 31)).toInt32) &&& 1431655765)) &&& 858993459) + (((((nI y) - ((((nI y).toUInt32 >>> ((1 : Int32).toUInt32 &&& Int32.toUInt32 31)).toInt32) &&& 1431655765)).toUInt32 >>> ((2 : Int32).toUInt32 &&& Int32.toUInt32 31)).toInt32) &&& 858993459)) + ((((((nI y) - ((((nI y).toUInt32 >>> ((1 : Int32).toUInt32 &&& Int32.toUInt32 31)).toInt32) &&& 1431655765)) &&& 858993459) + (((((nI y) - ((((nI y).toUInt32 >>> ((1 : Int32).toUInt32 &&& Int32.toUInt32 31)).toInt32) &&& 1431655765)).toUInt32 >>> ((2 : Int32).toUInt32 &&& Int32.toUInt32 31)).toInt32) &&& 858993459)).toUInt32 >>> ((4 : Int32).toUInt32 &&& Int32.toUInt32 31)).toInt32)) &&& 252645135).toUInt32 >>> ((8 : Int32).toUInt32 &&& Int32.toUInt32 31)).toInt32)).toUInt32 >>> ((16 : Int32).toUInt32 &&& Int32.toUInt32 31)).toInt32)))], [.int ((((((((nI y) - ((((nI y).toUInt32 >>> ((1 : Int32).toUInt32 &&& Int32.toUInt32 31)).toInt32) &&& 1431655765)) &&& 858993459) + (((((nI y) - ((((nI y).toUInt32 >>> ((1 : Int32).toUInt32 &&& Int32.toUInt32 31)).toInt32) &&& 1431655765)).toUInt32 >>> ((2 : Int32).toUInt32 &&& Int32.toUInt32 31)).toInt32) &&& 858993459)) + ((((((nI y) - ((((nI y).toUInt32 >>> ((1 : Int32).toUInt32 &&& Int32.toUInt32 31)).toInt32) &&& 1431655765)) &&& 858993459) + (((((nI y) - ((((nI y).toUInt32 >>> ((1 : Int32).toUInt32 &&& Int32.toUInt32 31)).toInt32) &&& 1431655765)).toUInt32 >>> ((2 : Int32).toUInt32 &&& Int32.toUInt32 31)).toInt32) &&& 858993459)).toUInt32 >>> ((4 : Int32).toUInt32 &&& Int32.toUInt32 31)).toInt32)) &&& 252645135) + ((((((((nI y) - ((((nI y).toUInt32 >>> ((1 : Int32).toUInt32 &&& Int32.toUInt32 31)).toInt32) &&& 1431655765)) &&& 858993459) + (((((nI y) - ((((nI y).toUInt32 >>> ((1 : Int32).toUInt32 &&& Int32.toUInt32 31)).toInt32) &&& 1431655765)).toUInt32 >>> ((2 : Int32).toUInt32 &&& Int32.toUInt32 31)).toInt32) &&& 858993459)) + ((((((nI y) - ((((nI y).toUInt32 >>> ((1 : Int32).toUInt32 &&& Int32.toUInt32 31)).toInt32) &&& 1431655765)) &&& 858993459) + (((((nI y) - ((((nI y).toUInt32 >>> ((1 : Int32).toUInt32 &&& Int32.toUInt32 31)).toInt32) &&& 1431655765)).toUInt32 >>> ((2 : Int32).toUInt32 &&& Int32.toUInt32 31)).toInt32) &&& 858993459)).toUInt32 >>> ((4 : Int32).toUInt32 &&& Int32.toUInt32 31)).toInt32)) &&& 252645135).toUInt32 >>> ((8 : Int32).toUInt32 &&& Int32.toUInt32 31)).toInt32)) + (((((((((nI y) - ((((nI y).toUInt32 >>> ((1 : Int32).toUInt32 &&& Int32.toUInt32 31)).toInt32) &&& 1431655765)) &&& 858993459) + (((((nI y) - ((((nI y).toUInt32 >>> ((1 : Int32).toUInt32 &&& Int32.toUInt32 31)).toInt32) &&& 1431655765)).toUInt32 >>> ((2 : Int32).toUInt32 &&& Int32.toUInt32 31)).toInt32) &&& 858993459)) + ((((((nI y) - ((((nI y).toUInt32 >>> ((1 : Int32).toUInt32 &&& Int32.toUInt32 31)).toInt32) &&& 1431655765)) &&& 858993459) + (((((nI y) - ((((nI y).toUInt32 >>> ((1 : Int32).toUInt32 &&& Int32.toUInt32 31)).toInt32) &&& 1431655765)).toUInt32 >>> ((2 : Int32).toUInt32 &&& Int32.toUInt32 31)).toInt32) &&& 858993459)).toUInt32 >>> ((4 : Int32).toUInt32 &&& Int32.toUInt32 31)).toInt32)) &&& 252645135) + ((((((((nI y) - ((((nI y).toUInt32 >>> ((1 : Int32).toUInt32 &&& Int32.toUInt32 31)).toInt32) &&& 1431655765)) &&& 858993459) + (((((nI y) - ((((nI y).toUInt32 >>> ((1 : Int32).toUInt32 &&& Int32.toUInt32 31)).toInt32) &&& 1431655765)).toUInt32 >>> ((2 : Int32).toUInt32 &&& Int32.toUInt32 31)).toInt32) &&& 858993459)) + ((((((nI y) - ((((nI y).toUInt32 >>> ((1 : Int32).toUInt32 &&& Int32.toUInt32 31)).toInt32) &&& 1431655765)) &&& 858993459) + (((((nI y) - ((((nI y).toUInt32 >>> ((1 : Int32).toUInt32 &&& Int32.toUInt32 31)).toInt32) &&& 1431655765)).toUInt32 >>> ((2 : Int32).toUInt32 &&& Int32.toUInt32 31)).toInt32) &&& 858993459)).toUInt32 >>> ((4 : Int32).toUInt32 &&& Int32.toUInt32 31)).toInt32)) &&& 252645135).toUInt32 >>> ((8 : Int32).toUInt32 &&& Int32.toUInt32 31)).toInt32)).toUInt32 >>> ((16 : Int32).toUInt32 &&& Int32.toUInt32 31)).toInt32))], M)) rfl rfl rfl ?_
  refine ps_st (S' := (51, [(0, .int ((((((((nI y) - ((((nI y).toUInt32 >>> ((1 : Int32).toUInt32 &&& Int32.toUInt32 31)).toInt32) &&& 1431655765)) &&& 858993459) + (((((nI y) - ((((nI y).toUInt32 >>> ((1 : Int32).toUInt32 &&& Int32.toUInt32 31)).toInt32) &&& 1431655765)).toUInt32 >>> ((2 : Int32).toUInt32 &&& Int32.toUInt32 31)).toInt32) &&& 858993459)) + ((((((nI y) - ((((nI y).toUInt32 >>> ((1 : Int32).toUInt32 &&& Int32.toUInt32 31)).toInt32) &&& 1431655765)) &&& 858993459) + (((((nI y) - ((((nI y).toUInt32 >>> ((1 : Int32).toUInt32 &&& Int32.toUInt32 31)).toInt32) &&& 1431655765)).toUInt32 >>> ((2 : Int32).toUInt32 &&& Int32.toUInt32 31)).toInt32) &&& 858993459)).toUInt32 >>> ((4 : Int32).toUInt32 &&& Int32.toUInt32 31)).toInt32)) &&& 252645135) + ((((((((nI y) - ((((nI y).toUInt32 >>> ((1 : Int32).toUInt32 &&& Int32.toUInt32 31)).toInt32) &&& 1431655765)) &&& 858993459) + (((((nI y) - ((((nI y).toUInt32 >>> ((1 : Int32).toUInt32 &&& Int32.toUInt32 31)).toInt32) &&& 1431655765)).toUInt32 >>> ((2 : Int32).toUInt32 &&& Int32.toUInt32 31)).toInt32) &&& 858993459)) + ((((((nI y) - ((((nI y).toUInt32 >>> ((1 : Int32).toUInt32 &&& Int32.toUInt32 31)).toInt32) &&& 1431655765)) &&& 858993459) + (((((nI y) - ((((nI y).toUInt32 >>> ((1 : Int32).toUInt32 &&& Int32.toUInt32 31)).toInt32) &&& 1431655765)).toUInt32 >>> ((2 : Int32).toUInt32 &&& Int32.toUInt32 31)).toInt32) &&& 858993459)).toUInt32 >>> ((4 : Int32).toUInt32 &&& Int32.toUInt32 31)).toInt32)) &&& 252645135).toUInt32 >>> ((8 : Int32).toUInt32 &&& Int32.toUInt32 31)).toInt32)) + (((((((((nI y) - ((((nI y).toUInt32 >>> ((1 : Int32).toUInt32 &&& Int32.toUInt32 31)).toInt32) &&& 1431655765)) &&& 858993459) + (((((nI y) - ((((nI y).toUInt32 >>> ((1 : Int32).toUInt32 &&& Int32.toUInt32 31)).toInt32) &&& 1431655765)).toUInt32 >>> ((2 : Int32).toUInt32 &&& Int32.toUInt32 31)).toInt32) &&& 858993459)) + ((((((nI y) - ((((nI y).toUInt32 >>> ((1 : Int32).toUInt32 &&& Int32.toUInt32 31)).toInt32) &&& 1431655765)) &&& 858993459) + (((((nI y) - ((((nI y).toUInt32 >>> ((1 : Int32).toUInt32 &&& Int32.toUInt32 31)).toInt32) &&& 1431655765)).toUInt32 >>> ((2 : Int32).toUInt32 &&& Int32.toUInt32 31)).toInt32) &&& 858993459)).toUInt32 >>> ((4 : Int32).toUInt32 &&& Int32.toUInt32 31)).toInt32)) &&& 252645135) + ((((((((nI y) - ((((nI y).toUInt32 >>> ((1 : Int32).toUInt32 &&& Int32.toUInt32 31)).toInt32) &&& 1431655765)) &&& 858993459) + (((((nI y) - ((((nI y).toUInt32 >>> ((1 : Int32).toUInt32 &&& Int32.toUInt32 31)).toInt32) &&& 1431655765)).toUInt32 >>> ((2 : Int32).toUInt32 &&& Int32.toUInt32 31)).toInt32) &&& 858993459)) + ((((((nI y) - ((((nI y).toUInt32 >>> ((1 : Int32).toUInt32 &&& Int32.toUInt32 31)).toInt32) &&& 1431655765)) &&& 858993459) + (((((nI y) - ((((nI y).toUInt32 >>> ((1 : Int32).toUInt32 &&& Int32.toUInt32 31)).toInt32) &&& 1431655765)).toUInt32 >>> ((2 : Int32).toUInt32 &&& Int32.toUInt32 31)).toInt32) &&& 858993459)).toUInt32 >>> ((4 : Int32).toUInt32 &&& Int32.toUInt32 31)).toInt32)) &&& 252645135).toUInt32 >>> ((8 : Int32).toUInt32 &&& Int32.toUInt32 31)).toInt32)).toUInt32 >>> ((16 : Int32).toUInt32 &&& Int32.toUInt32 31)).toInt32)))], [.int 63, .int ((((((((nI y) - ((((nI y).toUInt32 >>> ((1 : Int32).toUInt32 &&& Int32.toUInt32 31)).toInt32) &&& 1431655765)) &&& 858993459) + (((((nI y) - ((((nI y).toUInt32 >>> ((1 : Int32).toUInt32 &&& Int32.toUInt32 31)).toInt32) &&& 1431655765)).toUInt32 >>> ((2 : Int32).toUInt32 &&& Int32.toUInt32 31)).toInt32) &&& 858993459)) + ((((((nI y) - ((((nI y).toUInt32 >>> ((1 : Int32).toUInt32 &&& Int32.toUInt32 31)).toInt32) &&& 1431655765)) &&& 858993459) + (((((nI y) - ((((nI y).toUInt32 >>> ((1 : Int32).toUInt32 &&& Int32.toUInt32 31)).toInt32) &&& 1431655765)).toUInt32 >>> ((2 : Int32).toUInt32 &&& Int32.toUInt32 31)).toInt32) &&& 858993459)).toUInt32 >>> ((4 : Int32).toUInt32 &&& Int32.toUInt32 31)).toInt32)) &&& 252645135) + ((((((((nI y) - ((((nI y).toUInt32 >>> ((1 : Int32).toUInt32 &&& Int32.toUInt32 31)).toInt32) &&& 1431655765)) &&& 858993459) + (((((nI y) - ((((nI y).toUInt32 >>> ((1 : Int32).toUInt32 &&& Int32.toUInt32 31)).toInt32) &&& 1431655765)).toUInt32 >>> ((2 : Int32).toUInt32 &&& Int32.toUInt32 31)).toInt32) &&& 858993459)) + ((((((nI y) - ((((nI y).toUInt32 >>> ((1 : Int32).toUInt32 &&& Int32.toUInt32 31)).toInt32) &&& 1431655765)) &&& 858993459) + (((((nI y) - ((((nI y).toUInt32 >>> ((1 : Int32).toUInt32 &&& Int32.toUInt32 31)).toInt32) &&& 1431655765)).toUInt32 >>> ((2 : Int32).toUInt32 &&& Int32.toUInt32 31)).toInt32) &&& 858993459)).toUInt32 >>> ((4 : Int32).toUInt32 &&& Int32.toUInt32 31)).toInt32)) &&& 252645135).toUInt32 >>> ((8 : Int32).toUInt32 &&& Int32.toUInt32 31)).toInt32)) + (((((((((nI y) - ((((nI y).toUInt32 >>> ((1 : Int32).toUInt32 &&& Int32.toUInt32 31)).toInt32) &&& 1431655765)) &&& 858993459) + (((((nI y) - ((((nI y).toUInt32 >>> ((1 : Int32).toUInt32 &&& Int32.toUInt32 31)).toInt32) &&& 1431655765)).toUInt32 >>> ((2 : Int32).toUInt32 &&& Int32.toUInt32 31)).toInt32) &&& 858993459)) + ((((((nI y) - ((((nI y).toUInt32 >>> ((1 : Int32).toUInt32 &&& Int32.toUInt32 31)).toInt32) &&& 1431655765)) &&& 858993459) + (((((nI y) - ((((nI y).toUInt32 >>> ((1 : Int32).toUInt32 &&& Int32.toUInt32 31)).toInt32) &&& 1431655765)).toUInt32 >>> ((2 : Int32).toUInt32 &&& Int32.toUInt32 31)).toInt32) &&& 858993459)).toUInt32 >>> ((4 : Int32).toUInt32 &&& Int32.toUInt32 31)).toInt32)) &&& 252645135) + ((((((((nI y) - ((((nI y).toUInt32 >>> ((1 : Int32).toUInt32 &&& Int32.toUInt32 31)).toInt32) &&& 1431655765)) &&& 858993459) + (((((nI y) - ((((nI y).toUInt32 >>> ((1 : Int32).toUInt32 &&& Int32.toUInt32 31)).toInt32) &&& 1431655765)).toUInt32 >>> ((2 : Int32).toUInt32 &&& Int32.toUInt32 31)).toInt32) &&& 858993459)) + ((((((nI y) - ((((nI y).toUInt32 >>> ((1 : Int32).toUInt32 &&& Int32.toUInt32 31)).toInt32) &&& 1431655765)) &&& 858993459) + (((((nI y) - ((((nI y).toUInt32 >>> ((1 : Int32).toUInt32 &&& Int32.toUInt32 31)).toInt32) &&& 1431655765)).toUInt32 >>> ((2 : Int32).toUInt32 &&& Int32.toUInt32 31)).toInt32) &&& 858993459)).toUInt32 >>> ((4 : Int32).toUInt32 &&& Int32.toUInt32 31)).toInt32)) &&& 252645135).toUInt32 >>> ((8 : Int32).toUInt32 &&& Int32.toUInt32 31)).toInt32)).toUInt32 >>> ((16 : Int32).toUInt32 &&& Int32.toUInt32 31)).toInt32))], M)) rfl rfl rfl ?_
  refine ps_st (S' := (52, [(0, .int ((((((((nI y) - ((((nI y).toUInt32 >>> ((1 : Int32).toUInt32 &&& Int32.toUInt32 31)).toInt32) &&& 1431655765)) &&& 858993459) + (((((nI y) - ((((nI y).toUInt32 >>> ((1 : Int32).toUInt32 &&& Int32.toUInt32 31)).toInt32) &&& 1431655765)).toUInt32 >>> ((2 : Int32).toUInt32 &&& Int32.toUInt32 31)).toInt32) &&& 858993459)) + ((((((nI y) - ((((nI y).toUInt32 >>> ((1 : Int32).toUInt32 &&& Int32.toUInt32 31)).toInt32) &&& 1431655765)) &&& 858993459) + (((((nI y) - ((((nI y).toUInt32 >>> ((1 : Int32).toUInt32 &&& Int32.toUInt32 31)).toInt32) &&& 1431655765)).toUInt32 >>> ((2 : Int32).toUInt32 &&& Int32.toUInt32 31)).toInt32) &&& 858993459)).toUInt32 >>> ((4 : Int32).toUInt32 &&& Int32.toUInt32 31)).toInt32)) &&& 252645135) + ((((((((nI y) - ((((nI y).toUInt32 >>> ((1 : Int32).toUInt32 &&& Int32.toUInt32 31)).toInt32) &&& 1431655765)) &&& 858993459) + (((((nI y) - ((((nI y).toUInt32 >>> ((1 : Int32).toUInt32 &&& Int32.toUInt32 31)).toInt32) &&& 1431655765)).toUInt32 >>> ((2 : Int32).toUInt32 &&& Int32.toUInt32 31)).toInt32) &&& 858993459)) + ((((((nI y) - ((((nI y).toUInt32 >>> ((1 : Int32).toUInt32 &&& Int32.toUInt32 31)).toInt32) &&& 1431655765)) &&& 858993459) + (((((nI y) - ((((nI y).toUInt32 >>> ((1 : Int32).toUInt32 &&& Int32.toUInt32 31)).toInt32) &&& 1431655765)).toUInt32 >>> ((2 : Int32).toUInt32 &&& Int32.toUInt32 31)).toInt32) &&& 858993459)).toUInt32 >>> ((4 : Int32).toUInt32 &&& Int32.toUInt32 31)).toInt32)) &&& 252645135).toUInt32 >>> ((8 : Int32).toUInt32 &&& Int32.toUInt32 31)).toInt32)) + (((((((((nI y) - ((((nI y).toUInt32 >>> ((1 : Int32).toUInt32 &&& Int32.toUInt32 31)).toInt32) &&& 1431655765)) &&& 858993459) + (((((nI y) - ((((nI y).toUInt32 >>> ((1 : Int32).toUInt32 &&& Int32.toUInt32 31)).toInt32) &&& 1431655765)).toUInt32 >>> ((2 : Int32).toUInt32 &&& Int32.toUInt32 31)).toInt32) &&& 858993459)) + ((((((nI y) - ((((nI y).toUInt32 >>> ((1 : Int32).toUInt32 &&& Int32.toUInt32 31)).toInt32) &&& 1431655765)) &&& 858993459) + (((((nI y) - ((((nI y).toUInt32 >>> ((1 : Int32).toUInt32 &&& Int32.toUInt32 31)).toInt32) &&& 1431655765)).toUInt32 >>> ((2 : Int32).toUInt32 &&& Int32.toUInt32 31)).toInt32) &&& 858993459)).toUInt32 >>> ((4 : Int32).toUInt32 &&& Int32.toUInt32 31)).toInt32)) &&& 252645135) + ((((((((nI y) - ((((nI y).toUInt32 >>> ((1 : Int32).toUInt32 &&& Int32.toUInt32 31)).toInt32) &&& 1431655765)) &&& 858993459) + (((((nI y) - ((((nI y).toUInt32 >>> ((1 : Int32).toUInt32 &&& Int32.toUInt32 31)).toInt32) &&& 1431655765)).toUInt32 >>> ((2 : Int32).toUInt32 &&& Int32.toUInt32 31)).toInt32) &&& 858993459)) + ((((((nI y) - ((((nI y).toUInt32 >>> ((1 : Int32).toUInt32 &&& Int32.toUInt32 31)).toInt32) &&& 1431655765)) &&& 858993459) + (((((nI y) - ((((nI y).toUInt32 >>> ((1 : Int32).toUInt32 &&& Int32.toUInt32 31)).toInt32) &&& 1431655765)).toUInt32 >>> ((2 : Int32).toUInt32 &&& Int32.toUInt32 31)).toInt32) &&& 858993459)).toUInt32 >>> ((4 : Int32).toUInt32 &&& Int32.toUInt32 31)).toInt32)) &&& 252645135).toUInt32 >>> ((8 : Int32).toUInt32 &&& Int32.toUInt32 31)).toInt32)).toUInt32 >>> ((16 : Int32).toUInt32 &&& Int32.toUInt32 31)).toInt32)))], [.int (((((((((nI y) - ((((nI y).toUInt32 >>> ((1 : Int32).toUInt32 &&& Int32.toUInt32 31)).toInt32) &&& 1431655765)) &&& 858993459) + (((((nI y) - ((((nI y).toUInt32 >>> ((1 : Int32).toUInt32 &&& Int32.toUInt32 31)).toInt32) &&& 1431655765)).toUInt32 >>> ((2 : Int32).toUInt32 &&& Int32.toUInt32 31)).toInt32) &&& 858993459)) + ((((((nI y) - ((((nI y).toUInt32 >>> ((1 : Int32).toUInt32 &&& Int32.toUInt32 31)).toInt32) &&& 1431655765)) &&& 858993459) + (((((nI y) - ((((nI y).toUInt32 >>> ((1 : Int32).toUInt32 &&& Int32.toUInt32 31)).toInt32) &&& 1431655765)).toUInt32 >>> ((2 : Int32).toUInt32 &&& Int32.toUInt32 31)).toInt32) &&& 858993459)).toUInt32 >>> ((4 : Int32).toUInt32 &&& Int32.toUInt32 31)).toInt32)) &&& 252645135) + ((((((((nI y) - ((((nI y).toUInt32 >>> ((1 : Int32).toUInt32 &&& Int32.toUInt32 31)).toInt32) &&& 1431655765)) &&& 858993459) + (((((nI y) - ((((nI y).toUInt32 >>> ((1 : Int32).toUInt32 &&& Int32.toUInt32 31)).toInt32) &&& 1431655765)).toUInt32 >>> ((2 : Int32).toUInt32 &&& Int32.toUInt32 31)).toInt32) &&& 858993459)) + ((((((nI y) - ((((nI y).toUInt32 >>> ((1 : Int32).toUInt32 &&& Int32.toUInt32 31)).toInt32) &&& 1431655765)) &&& 858993459) + (((((nI y) - ((((nI y).toUInt32 >>> ((1 : Int32).toUInt32 &&& Int32.toUInt32 31)).toInt32) &&& 1431655765)).toUInt32 >>> ((2 : Int32).toUInt32 &&& Int32.toUInt32 31)).toInt32) &&& 858993459)).toUInt32 >>> ((4 : Int32).toUInt32 &&& Int32.toUInt32 31)).toInt32)) &&& 252645135).toUInt32 >>> ((8 : Int32).toUInt32 &&& Int32.toUInt32 31)).toInt32)) + (((((((((nI y) - ((((nI y).toUInt32 >>> ((1 : Int32).toUInt32 &&& Int32.toUInt32 31)).toInt32) &&& 1431655765)) &&& 858993459) + (((((nI y) - ((((nI y).toUInt32 >>> ((1 : Int32).toUInt32 &&& Int32.toUInt32 31)).toInt32) &&& 1431655765)).toUInt32 >>> ((2 : Int32).toUInt32 &&& Int32.toUInt32 31)).toInt32) &&& 858993459)) + ((((((nI y) - ((((nI y).toUInt32 >>> ((1 : Int32).toUInt32 &&& Int32.toUInt32 31)).toInt32) &&& 1431655765)) &&& 858993459) + (((((nI y) - ((((nI y).toUInt32 >>> ((1 : Int32).toUInt32 &&& Int32.toUInt32 31)).toInt32) &&& 1431655765)).toUInt32 >>> ((2 : Int32).toUInt32 &&& Int32.toUInt32 31)).toInt32) &&& 858993459)).toUInt32 >>> ((4 : Int32).toUInt32 &&& Int32.toUInt32 31)).toInt32)) &&& 252645135) + ((((((((nI y) - ((((nI y).toUInt32 >>> ((1 : Int32).toUInt32 &&& Int32.toUInt32 31)).toInt32) &&& 1431655765)) &&& 858993459) + (((((nI y) - ((((nI y).toUInt32 >>> ((1 : Int32).toUInt32 &&& Int32.toUInt32 31)).toInt32) &&& 1431655765)).toUInt32 >>> ((2 : Int32).toUInt32 &&& Int32.toUInt32 31)).toInt32) &&& 858993459)) + ((((((nI y) - ((((nI y).toUInt32 >>> ((1 : Int32).toUInt32 &&& Int32.toUInt32 31)).toInt32) &&& 1431655765)) &&& 858993459) + (((((nI y) - ((((nI y).toUInt32 >>> ((1 : Int32).toUInt32 &&& Int32.toUInt32 31)).toInt32) &&& 1431655765)).toUInt32 >>> ((2 : Int32).toUInt32 &&& Int32.toUInt32 31)).toInt32) &&& 858993459)).toUInt32 >>> ((4 : Int32).toUInt32 &&& Int32.toUInt32 31)).toInt32)) &&& 252645135).toUInt32 >>> ((8 : Int32).toUInt32 &&& Int32.toUInt32 31)).toInt32)).toUInt32 >>> ((16 : Int32).toUInt32 &&& Int32.toUInt32 31)).toInt32)) &&& 63)], M)) rfl rfl rfl ?_
  exact ps_reti rfl (⟨congrArg (fun x => some (Value.int x)) ((show ∀ y, y < 8 → (((((((((nI y) - ((((nI y).toUInt32 >>> ((1 : Int32).toUInt32 &&& Int32.toUInt32 31)).toInt32) &&& 1431655765)) &&& 858993459) + (((((nI y) - ((((nI y).toUInt32 >>> ((1 : Int32).toUInt32 &&& Int32.toUInt32 31)).toInt32) &&& 1431655765)).toUInt32 >>> ((2 : Int32).toUInt32 &&& Int32.toUInt32 31)).toInt32) &&& 858993459)) + ((((((nI y) - ((((nI y).toUInt32 >>> ((1 : Int32).toUInt32 &&& Int32.toUInt32 31)).toInt32) &&& 1431655765)) &&& 858993459) + (((((nI y) - ((((nI y).toUInt32 >>> ((1 : Int32).toUInt32 &&& Int32.toUInt32 31)).toInt32) &&& 1431655765)).toUInt32 >>> ((2 : Int32).toUInt32 &&& Int32.toUInt32 31)).toInt32) &&& 858993459)).toUInt32 >>> ((4 : Int32).toUInt32 &&& Int32.toUInt32 31)).toInt32)) &&& 252645135) + ((((((((nI y) - ((((nI y).toUInt32 >>> ((1 : Int32).toUInt32 &&& Int32.toUInt32 31)).toInt32) &&& 1431655765)) &&& 858993459) + (((((nI y) - ((((nI y).toUInt32 >>> ((1 : Int32).toUInt32 &&& Int32.toUInt32 31)).toInt32) &&& 1431655765)).toUInt32 >>> ((2 : Int32).toUInt32 &&& Int32.toUInt32 31)).toInt32) &&& 858993459)) + ((((((nI y) - ((((nI y).toUInt32 >>> ((1 : Int32).toUInt32 &&& Int32.toUInt32 31)).toInt32) &&& 1431655765)) &&& 858993459) + (((((nI y) - ((((nI y).toUInt32 >>> ((1 : Int32).toUInt32 &&& Int32.toUInt32 31)).toInt32) &&& 1431655765)).toUInt32 >>> ((2 : Int32).toUInt32 &&& Int32.toUInt32 31)).toInt32) &&& 858993459)).toUInt32 >>> ((4 : Int32).toUInt32 &&& Int32.toUInt32 31)).toInt32)) &&& 252645135).toUInt32 >>> ((8 : Int32).toUInt32 &&& Int32.toUInt32 31)).toInt32)) + (((((((((nI y) - ((((nI y).toUInt32 >>> ((1 : Int32).toUInt32 &&& Int32.toUInt32 31)).toInt32) &&& 1431655765)) &&& 858993459) + (((((nI y) - ((((nI y).toUInt32 >>> ((1 : Int32).toUInt32 &&& Int32.toUInt32 31)).toInt32) &&& 1431655765)).toUInt32 >>> ((2 : Int32).toUInt32 &&& Int32.toUInt32 31)).toInt32) &&& 858993459)) + ((((((nI y) - ((((nI y).toUInt32 >>> ((1 : Int32).toUInt32 &&& Int32.toUInt32 31)).toInt32) &&& 1431655765)) &&& 858993459) + (((((nI y) - ((((nI y).toUInt32 >>> ((1 : Int32).toUInt32 &&& Int32.toUInt32 31)).toInt32) &&& 1431655765)).toUInt32 >>> ((2 : Int32).toUInt32 &&& Int32.toUInt32 31)).toInt32) &&& 858993459)).toUInt32 >>> ((4 : Int32).toUInt32 &&& Int32.toUInt32 31)).toInt32)) &&& 252645135) + ((((((((nI y) - ((((nI y).toUInt32 >>> ((1 : Int32).toUInt32 &&& Int32.toUInt32 31)).toInt32) &&& 1431655765)) &&& 858993459) + (((((nI y) - ((((nI y).toUInt32 >>> ((1 : Int32).toUInt32 &&& Int32.toUInt32 31)).toInt32) &&& 1431655765)).toUInt32 >>> ((2 : Int32).toUInt32 &&& Int32.toUInt32 31)).toInt32) &&& 858993459)) + ((((((nI y) - ((((nI y).toUInt32 >>> ((1 : Int32).toUInt32 &&& Int32.toUInt32 31)).toInt32) &&& 1431655765)) &&& 858993459) + (((((nI y) - ((((nI y).toUInt32 >>> ((1 : Int32).toUInt32 &&& Int32.toUInt32 31)).toInt32) &&& 1431655765)).toUInt32 >>> ((2 : Int32).toUInt32 &&& Int32.toUInt32 31)).toInt32) &&& 858993459)).toUInt32 >>> ((4 : Int32).toUInt32 &&& Int32.toUInt32 31)).toInt32)) &&& 252645135).toUInt32 >>> ((8 : Int32).toUInt32 &&& Int32.toUInt32 31)).toInt32)).toUInt32 >>> ((16 : Int32).toUInt32 &&& Int32.toUInt32 31)).toInt32)) &&& 63) = nI (bc3 y) by decide +kernel) y hy), rfl⟩)
set_option maxHeartbeats 1000000 in
theorem dk_hasOneAccessAtMost {g : xe_G} {M : mi_H} {x : Nat}  (hx : x < 65536) : pt (mT g) 59 [.int (nI x)] M (fun v M' => (v = some (.int (nI (oneN x))) ∧ M = M')) := by
  refine pt_in (b := mb_59 g) rfl (fun kf => ?_)
  show pl (mT g) kf (mb_59 g).2 (0, [(0, .int (nI x))], [], M) _
  have ha_x : ∀ m, aN x m < 65536 := fun m => Nat.lt_of_le_of_lt Nat.and_le_left hx
  refine ps_st (S' := (1, [(0, .int (nI x))], [.int (nI x)], M)) rfl rfl rfl ?_
  refine ps_st (S' := (3, [(0, .int (nI x))], [.int 7, .int (nI x)], M)) rfl rfl rfl ?_
  refine ps_st (S' := (4, [(0, .int (nI x))], [.int ((nI x) &&& 7)], M)) rfl rfl rfl ?_
  rw [nI_an (p := x) (k := 7) (x := 7) rfl]
  show pl _ _ _ (_, [(0, .int (nI x))], [.int (nI (aN x 7))], M) _
  refine pl_call (a := [.int (nI (aN x 7))]) (rest := []) rfl rfl rfl (dk_bitCount (y := (aN x 7)) (Nat.lt_of_le_of_lt (an_le _ _) (by decide))) (fun v1 M2 q3 => ?_)
  obtain ⟨rfl, rfl⟩ := q3
  show pl _ _ _ (7, [(0, .int (nI x))], [.int (nI (bc3 (aN x 7)))], M) _
  refine ps_st (S' := (8, [(0, .int (nI x))], [.int 1, .int (nI (bc3 (aN x 7)))], M)) rfl rfl rfl ?_
  refine ps_if2 (S1 := (15, [(0, .int (nI x))], [], M)) (S2 := (11, [(0, .int (nI x))], [], M)) rfl rfl rfl (fun c_8 => ?_) (fun c_8 => ?_)
  · have c_8 : 1 < (nI (bc3 (aN x 7))) := of_decide_eq_true c_8
    have n_8 : 1 < bc3 (aN x 7) := (lt_nI (p := 1) (n := bc3 (aN x 7)) (by decide) (Nat.lt_trans (bc3_lt _) (by decide))).mp c_8
    refine ps_st (S' := (16, [], [.int 0], M)) rfl rfl rfl ?_
    exact ps_ret rfl rfl (⟨congrArg (fun x => some (Value.int (nI x))) (show 0 = oneN x from by
        unfold oneN
        first | ((repeat first | rw [if_pos (by omega)] | rw [if_neg (by omega)]) <;> first | rfl | omega) | ((repeat' split) <;> first | rfl | (exfalso; omega) | omega)), rfl⟩)
  · have c_8 : ¬ (1 < (nI (bc3 (aN x 7)))) := of_decide_eq_false c_8
    have n_8 : ¬ (1 < bc3 (aN x 7)) := fun h9 => c_8 ((lt_nI (p := 1) (n := bc3 (aN x 7)) (by decide) (Nat.lt_trans (bc3_lt _) (by decide))).mpr h9)
    refine ps_st (S' := (12, [(0, .int (nI x))], [.int 1], M)) rfl rfl rfl ?_
    refine ps_st (S' := (16, [], [.int 1], M)) rfl rfl rfl ?_
    exact ps_ret rfl rfl (⟨congrArg (fun x => some (Value.int (nI x))) (show 1 = oneN x from by
        unfold oneN
        first | ((repeat first | rw [if_pos (by omega)] | rw [if_neg (by omega)]) <;> first | rfl | omega) | ((repeat' split) <;> first | rfl | (exfalso; omega) | omega)), rfl⟩)
set_option maxHeartbeats 1000000 in
theorem dk_classFlagsHold {g : xe_G} {M : mi_H} {x : Nat}  (hx : x < 65536) : pt (mT g) 53 [.int (nI x)] M (fun v M' => (v = some (.int (nI (cflN x))) ∧ M = M')) := by
  refine pt_in (b := mb_53 g) rfl (fun kf => ?_)
  show pl (mT g) kf (mb_53 g).2 (0, [(0, .int (nI x))], [], M) _
  have ha_x : ∀ m, aN x m < 65536 := fun m => Nat.lt_of_le_of_lt Nat.and_le_left hx
  refine ps_st (S' := (1, [(0, .int (nI x))], [.int (nI x)], M)) rfl rfl rfl ?_
  refine ps_st (S' := (3, [(0, .int (nI x))], [.int 32768, .int (nI x)], M)) rfl rfl rfl ?_
  refine ps_st (S' := (4, [(0, .int (nI x))], [.int ((nI x) &&& 32768)], M)) rfl rfl rfl ?_
  rw [nI_an (p := x) (k := 32768) (x := 32768) rfl]
  show pl _ _ _ (_, [(0, .int (nI x))], [.int (nI (aN x 32768))], M) _
  refine ps_if (S1 := (9, [(0, .int (nI x))], [], M)) (S2 := (7, [(0, .int (nI x))], [], M)) rfl rfl rfl (fun c_4 => ?_) (fun c_4 => ?_)
  · have c_4 : (nI (aN x 32768)) = 0 := of_decide_eq_true c_4
    have n_4 : aN x 32768 = 0 := (eq_nI (p := aN x 32768) (n := 0) (Nat.lt_trans (ha_x _) (by decide)) (by decide)).mp c_4
    refine ps_st (S' := (10, [(0, .int (nI x))], [.int (nI x)], M)) rfl rfl rfl ?_
    refine ps_st (S' := (13, [(0, .int (nI x))], [.int 512, .int (nI x)], M)) rfl rfl rfl ?_
    refine ps_st (S' := (14, [(0, .int (nI x))], [.int ((nI x) &&& 512)], M)) rfl rfl rfl ?_
    rw [nI_an (p := x) (k := 512) (x := 512) rfl]
    show pl _ _ _ (_, [(0, .int (nI x))], [.int (nI (aN x 512))], M) _
    refine ps_if (S1 := (39, [(0, .int (nI x))], [], M)) (S2 := (17, [(0, .int (nI x))], [], M)) rfl rfl rfl (fun c_14 => ?_) (fun c_14 => ?_)
    · have c_14 : (nI (aN x 512)) = 0 := of_decide_eq_true c_14
      have n_14 : aN x 512 = 0 := (eq_nI (p := aN x 512) (n := 0) (Nat.lt_trans (ha_x _) (by decide)) (by decide)).mp c_14
      refine ps_st (S' := (40, [(0, .int (nI x))], [.int (nI x)], M)) rfl rfl rfl ?_
      refine ps_st (S' := (43, [(0, .int (nI x))], [.int 8192, .int (nI x)], M)) rfl rfl rfl ?_
      refine ps_st (S' := (44, [(0, .int (nI x))], [.int ((nI x) &&& 8192)], M)) rfl rfl rfl ?_
      rw [nI_an (p := x) (k := 8192) (x := 8192) rfl]
      show pl _ _ _ (_, [(0, .int (nI x))], [.int (nI (aN x 8192))], M) _
      refine ps_if (S1 := (61, [], [], M)) (S2 := (47, [(0, .int (nI x))], [], M)) rfl rfl rfl (fun c_44 => ?_) (fun c_44 => ?_)
      · have c_44 : ¬ (nI (aN x 8192)) = 0 := of_decide_eq_true c_44
        have n_44 : ¬ (aN x 8192 = 0) := fun h9 => c_44 ((eq_nI (p := aN x 8192) (n := 0) (Nat.lt_trans (ha_x _) (by decide)) (by decide)).mpr h9)
        refine ps_st (S' := (62, [], [.int 0], M)) rfl rfl rfl ?_
        exact ps_ret rfl rfl (⟨congrArg (fun x => some (Value.int (nI x))) (show 0 = cflN x from by
            unfold cflN
            first | ((repeat first | rw [if_pos (by omega)] | rw [if_neg (by omega)]) <;> first | rfl | omega) | ((repeat' split) <;> first | rfl | (exfalso; omega) | omega)), rfl⟩)
      · have c_44 : ¬ (¬ (nI (aN x 8192)) = 0) := of_decide_eq_false c_44
        have n_44 : aN x 8192 = 0 := (eq_nI (p := aN x 8192) (n := 0) (Nat.lt_trans (ha_x _) (by decide)) (by decide)).mp (Decidable.not_not.mp c_44)
        refine ps_st (S' := (48, [(0, .int (nI x))], [.int (nI x)], M)) rfl rfl rfl ?_
        refine ps_st (S' := (51, [(0, .int (nI x))], [.int 1040, .int (nI x)], M)) rfl rfl rfl ?_
        refine pl_call (a := [.int (nI x), .int 1040]) (rest := []) rfl rfl rfl (dk_hasAll (x := x) (w := 1040) (by omega) (by decide)) (fun v1 M2 q3 => ?_)
        obtain ⟨rfl, rfl⟩ := q3
        show pl _ _ _ (54, [(0, .int (nI x))], [.int (nI (hallN x 1040))], M) _
        refine ps_if (S1 := (61, [], [], M)) (S2 := (57, [(0, .int (nI x))], [], M)) rfl rfl rfl (fun c_54 => ?_) (fun c_54 => ?_)
        · have c_54 : ¬ (nI (hallN x 1040)) = 0 := of_decide_eq_true c_54
          have n_54 : ¬ (hallN x 1040 = 0) := fun h9 => c_54 ((eq_nI (p := hallN x 1040) (n := 0) (Nat.lt_trans (le1_hall _ _) (by decide)) (by decide)).mpr h9)
          refine ps_st (S' := (62, [], [.int 0], M)) rfl rfl rfl ?_
          exact ps_ret rfl rfl (⟨congrArg (fun x => some (Value.int (nI x))) (show 0 = cflN x from by
              unfold cflN
              first | ((repeat first | rw [if_pos (by omega)] | rw [if_neg (by omega)]) <;> first | rfl | omega) | ((repeat' split) <;> first | rfl | (exfalso; omega) | omega)), rfl⟩)
        · have c_54 : ¬ (¬ (nI (hallN x 1040)) = 0) := of_decide_eq_false c_54
          have n_54 : hallN x 1040 = 0 := (eq_nI (p := hallN x 1040) (n := 0) (Nat.lt_trans (le1_hall _ _) (by decide)) (by decide)).mp (Decidable.not_not.mp c_54)
          refine ps_st (S' := (58, [(0, .int (nI x))], [.int 1], M)) rfl rfl rfl ?_
          refine ps_st (S' := (62, [], [.int 1], M)) rfl rfl rfl ?_
          exact ps_ret rfl rfl (⟨congrArg (fun x => some (Value.int (nI x))) (show 1 = cflN x from by
              unfold cflN
              first | ((repeat first | rw [if_pos (by omega)] | rw [if_neg (by omega)]) <;> first | rfl | omega) | ((repeat' split) <;> first | rfl | (exfalso; omega) | omega)), rfl⟩)
    · have c_14 : ¬ ((nI (aN x 512)) = 0) := of_decide_eq_false c_14
      have n_14 : ¬ (aN x 512 = 0) := fun h9 => c_14 ((eq_nI (p := aN x 512) (n := 0) (Nat.lt_trans (ha_x _) (by decide)) (by decide)).mpr h9)
      refine ps_st (S' := (18, [(0, .int (nI x))], [.int (nI x)], M)) rfl rfl rfl ?_
      refine ps_st (S' := (21, [(0, .int (nI x))], [.int 1024, .int (nI x)], M)) rfl rfl rfl ?_
      refine ps_st (S' := (22, [(0, .int (nI x))], [.int ((nI x) &&& 1024)], M)) rfl rfl rfl ?_
      rw [nI_an (p := x) (k := 1024) (x := 1024) rfl]
      show pl _ _ _ (_, [(0, .int (nI x))], [.int (nI (aN x 1024))], M) _
      refine ps_if (S1 := (37, [], [], M)) (S2 := (25, [(0, .int (nI x))], [], M)) rfl rfl rfl (fun c_22 => ?_) (fun c_22 => ?_)
      · have c_22 : (nI (aN x 1024)) = 0 := of_decide_eq_true c_22
        have n_22 : aN x 1024 = 0 := (eq_nI (p := aN x 1024) (n := 0) (Nat.lt_trans (ha_x _) (by decide)) (by decide)).mp c_22
        refine ps_st (S' := (38, [], [.int 0], M)) rfl rfl rfl ?_
        exact ps_ret rfl rfl (⟨congrArg (fun x => some (Value.int (nI x))) (show 0 = cflN x from by
            unfold cflN
            first | ((repeat first | rw [if_pos (by omega)] | rw [if_neg (by omega)]) <;> first | rfl | omega) | ((repeat' split) <;> first | rfl | (exfalso; omega) | omega)), rfl⟩)
      · have c_22 : ¬ ((nI (aN x 1024)) = 0) := of_decide_eq_false c_22
        have n_22 : ¬ (aN x 1024 = 0) := fun h9 => c_22 ((eq_nI (p := aN x 1024) (n := 0) (Nat.lt_trans (ha_x _) (by decide)) (by decide)).mpr h9)
        refine ps_st (S' := (26, [(0, .int (nI x))], [.int (nI x)], M)) rfl rfl rfl ?_
        refine ps_st (S' := (29, [(0, .int (nI x))], [.int 16432, .int (nI x)], M)) rfl rfl rfl ?_
        refine ps_st (S' := (30, [(0, .int (nI x))], [.int ((nI x) &&& 16432)], M)) rfl rfl rfl ?_
        rw [nI_an (p := x) (k := 16432) (x := 16432) rfl]
        show pl _ _ _ (_, [(0, .int (nI x))], [.int (nI (aN x 16432))], M) _
        refine ps_if (S1 := (37, [], [], M)) (S2 := (33, [(0, .int (nI x))], [], M)) rfl rfl rfl (fun c_30 => ?_) (fun c_30 => ?_)
        · have c_30 : ¬ (nI (aN x 16432)) = 0 := of_decide_eq_true c_30
          have n_30 : ¬ (aN x 16432 = 0) := fun h9 => c_30 ((eq_nI (p := aN x 16432) (n := 0) (Nat.lt_trans (ha_x _) (by decide)) (by decide)).mpr h9)
          refine ps_st (S' := (38, [], [.int 0], M)) rfl rfl rfl ?_
          exact ps_ret rfl rfl (⟨congrArg (fun x => some (Value.int (nI x))) (show 0 = cflN x from by
              unfold cflN
              first | ((repeat first | rw [if_pos (by omega)] | rw [if_neg (by omega)]) <;> first | rfl | omega) | ((repeat' split) <;> first | rfl | (exfalso; omega) | omega)), rfl⟩)
        · have c_30 : ¬ (¬ (nI (aN x 16432)) = 0) := of_decide_eq_false c_30
          have n_30 : aN x 16432 = 0 := (eq_nI (p := aN x 16432) (n := 0) (Nat.lt_trans (ha_x _) (by decide)) (by decide)).mp (Decidable.not_not.mp c_30)
          refine ps_st (S' := (34, [(0, .int (nI x))], [.int 1], M)) rfl rfl rfl ?_
          refine ps_st (S' := (38, [], [.int 1], M)) rfl rfl rfl ?_
          exact ps_ret rfl rfl (⟨congrArg (fun x => some (Value.int (nI x))) (show 1 = cflN x from by
              unfold cflN
              first | ((repeat first | rw [if_pos (by omega)] | rw [if_neg (by omega)]) <;> first | rfl | omega) | ((repeat' split) <;> first | rfl | (exfalso; omega) | omega)), rfl⟩)
  · have c_4 : ¬ ((nI (aN x 32768)) = 0) := of_decide_eq_false c_4
    have n_4 : ¬ (aN x 32768 = 0) := fun h9 => c_4 ((eq_nI (p := aN x 32768) (n := 0) (Nat.lt_trans (ha_x _) (by decide)) (by decide)).mpr h9)
    refine ps_st (S' := (8, [(0, .int (nI x))], [.int 0], M)) rfl rfl rfl ?_
    exact ps_ret rfl rfl (⟨congrArg (fun x => some (Value.int (nI x))) (show 0 = cflN x from by
        unfold cflN
        first | ((repeat first | rw [if_pos (by omega)] | rw [if_neg (by omega)]) <;> first | rfl | omega) | ((repeat' split) <;> first | rfl | (exfalso; omega) | omega)), rfl⟩)
set_option maxHeartbeats 1000000 in
theorem dk_headHolds {g : xe_G} {M : mi_H} {f : Nat → Int32} {n N q : Nat} {E : List (Nat × Nat)} {o c b da vd ac fr mr fa ic mj na pa : Nat} {mi ru wa k1 k2 k3 k4 k5 k6 k7 : Int32} (h_o : M.1 o = some (ob 2 [.ref c, .ref b, .ref q, .ref vd, .ref ac])) (h_c : M.1 c = some (ob 3 [.ref b, .ref q, .int mi, .int (nI mj), .int (nI fa), .int (nI ic), .ref fr, .ref mr, .int (nI na), .int (nI pa), .int k1, .int k2, .int k3, .int k4, .int k5, .int k6, .int k7])) (h_b : M.1 b = some (ob 1 [.ref da])) (h_da : M.1 da = some (ar .byte n f)) (h_vd : M.1 vd = some (ob 10 [.int ru, .int wa])) (hn : n ≤ 65540) (hmj : mj < 65536) (hfa : fa + 8 ≤ n) (hV : PV g f n N E q M) : pt (mT g) 60 [.ref o] M (fun v M' => ((hdS f n E fa = none) ∧ v = some (.int 1) ∧ M'.1 vd = some (ob 10 [.int ru, .int wa]) ∧ fm [vd] M M') ∨ (∃ (e : Nat × Nat), (hdS f n E fa = some e) ∧ v = some (.int 0) ∧ M'.1 vd = some (ob 10 [.int (nI e.1), .int (nI e.2)]) ∧ fm [vd] M M')) := by
  refine pt_in (b := mb_60 g) rfl (fun kf => ?_)
  show pl (mT g) kf (mb_60 g).2 (0, [(0, .ref o)], [], M) _
  have hF : fm [vd] M M := fm.rf
  refine ps_st (S' := (1, [(0, .ref o)], [.ref o], M)) rfl rfl rfl ?_
  refine ps_get (S' := (4, [(0, .ref o)], [.ref c], M)) rfl h_o rfl rfl ?_
  refine ps_get (S' := (7, [(0, .ref o)], [.int (nI fa)], M)) rfl h_c rfl rfl ?_
  refine ps_st (S' := (8, [(1, .int (nI fa)), (0, .ref o)], [], M)) rfl rfl rfl ?_
  refine ps_st (S' := (9, [(1, .int (nI fa)), (0, .ref o)], [.ref o], M)) rfl rfl rfl ?_
  refine ps_get (S' := (12, [(1, .int (nI fa)), (0, .ref o)], [.ref b], M)) rfl h_o rfl rfl ?_
  refine ps_st (S' := (13, [(1, .int (nI fa)), (0, .ref o)], [.int (nI fa), .ref b], M)) rfl rfl rfl ?_
  refine pl_call (a := [.ref b, .int (nI fa)]) (rest := []) rfl rfl rfl (dk_u2 (f := f) (n := n) (b := b) (da := da) (p := fa) h_b h_da (hn) (by omega)) (fun v1 M2 q3 => ?_)
  obtain ⟨rfl, rfl⟩ := q3
  show pl _ _ _ (16, [(1, .int (nI fa)), (0, .ref o)], [.int (nI (by2 f fa))], M) _
  have hu_13 := by2_lt f fa
  refine pl_call (a := [.int (nI (by2 f fa))]) (rest := []) rfl rfl rfl (dk_classFlagsHold (x := (by2 f fa)) (by2_lt _ _)) (fun v4 M5 q6 => ?_)
  obtain ⟨rfl, rfl⟩ := q6
  show pl _ _ _ (19, [(1, .int (nI fa)), (0, .ref o)], [.int (nI (cflN (by2 f fa)))], M) _
  refine ps_if (S1 := (33, [(1, .int (nI fa)), (0, .ref o)], [], M)) (S2 := (22, [(1, .int (nI fa)), (0, .ref o)], [], M)) rfl rfl rfl (fun c_19 => ?_) (fun c_19 => ?_)
  · have c_19 : ¬ (nI (cflN (by2 f fa))) = 0 := of_decide_eq_true c_19
    have n_19 : ¬ (cflN (by2 f fa) = 0) := fun h9 => c_19 ((eq_nI (p := cflN (by2 f fa)) (n := 0) (Nat.lt_trans (le1_cfl _) (by decide)) (by decide)).mpr h9)
    refine ps_st (S' := (34, [(1, .int (nI fa)), (0, .ref o)], [.ref o], M)) rfl rfl rfl ?_
    refine ps_get (S' := (37, [(1, .int (nI fa)), (0, .ref o)], [.ref q], M)) rfl h_o rfl rfl ?_
    refine ps_st (S' := (38, [(1, .int (nI fa)), (0, .ref o)], [.ref o, .ref q], M)) rfl rfl rfl ?_
    refine ps_get (S' := (41, [(1, .int (nI fa)), (0, .ref o)], [.ref b, .ref q], M)) rfl h_o rfl rfl ?_
    refine ps_st (S' := (42, [(1, .int (nI fa)), (0, .ref o)], [.int (nI fa), .ref b, .ref q], M)) rfl rfl rfl ?_
    refine ps_st (S' := (43, [(1, .int (nI fa)), (0, .ref o)], [.int 2, .int (nI fa), .ref b, .ref q], M)) rfl rfl rfl ?_
    refine ps_st (S' := (44, [(1, .int (nI fa)), (0, .ref o)], [.int ((nI fa) + 2), .ref b, .ref q], M)) rfl rfl rfl ?_
    rw [nI_add1 (p := fa) (k := 2) (x := 2) rfl (by omega)]
    show pl _ _ _ (_, [(1, .int (nI fa)), (0, .ref o)], [.int (nI (fa + 2)), .ref b, .ref q], M) _
    refine pl_call (a := [.ref b, .int (nI (fa + 2))]) (rest := [.ref q]) rfl rfl rfl (dk_u2 (f := f) (n := n) (b := b) (da := da) (p := (fa + 2)) h_b h_da (hn) (by omega)) (fun v7 M8 q9 => ?_)
    obtain ⟨rfl, rfl⟩ := q9
    show pl _ _ _ (47, [(1, .int (nI fa)), (0, .ref o)], [.int (nI (by2 f (fa + 2))), .ref q], M) _
    have hu_44 := by2_lt f (fa + 2)
    refine pl_call (a := [.ref q, .int (nI (by2 f (fa + 2)))]) (rest := []) rfl rfl rfl (dy_isPlainClass (f := f) (n := n) (N := N) (q := q) (E := E) (j := (by2 f (fa + 2))) (hV) (by2_lt _ _)) (fun v10 M11 q12 => ?_)
    obtain ⟨rfl, rfl⟩ := q12
    show pl _ _ _ (50, [(1, .int (nI fa)), (0, .ref o)], [.int (nI (plnN f n E (by2 f (fa + 2))))], M) _
    refine ps_if (S1 := (66, [(1, .int (nI fa)), (0, .ref o)], [], M)) (S2 := (53, [(1, .int (nI fa)), (0, .ref o)], [], M)) rfl rfl rfl (fun c_50 => ?_) (fun c_50 => ?_)
    · have c_50 : ¬ (nI (plnN f n E (by2 f (fa + 2)))) = 0 := of_decide_eq_true c_50
      have n_50 : ¬ (plnN f n E (by2 f (fa + 2)) = 0) := fun h9 => c_50 ((eq_nI (p := plnN f n E (by2 f (fa + 2))) (n := 0) (Nat.lt_trans (le1_pln _ _ _ _) (by decide)) (by decide)).mpr h9)
      refine ps_st (S' := (67, [(1, .int (nI fa)), (0, .ref o)], [.ref o], M)) rfl rfl rfl ?_
      refine ps_get (S' := (70, [(1, .int (nI fa)), (0, .ref o)], [.ref b], M)) rfl h_o rfl rfl ?_
      refine ps_st (S' := (71, [(1, .int (nI fa)), (0, .ref o)], [.int (nI fa), .ref b], M)) rfl rfl rfl ?_
      refine ps_st (S' := (72, [(1, .int (nI fa)), (0, .ref o)], [.int 4, .int (nI fa), .ref b], M)) rfl rfl rfl ?_
      refine ps_st (S' := (73, [(1, .int (nI fa)), (0, .ref o)], [.int ((nI fa) + 4), .ref b], M)) rfl rfl rfl ?_
      rw [nI_add1 (p := fa) (k := 4) (x := 4) rfl (by omega)]
      show pl _ _ _ (_, [(1, .int (nI fa)), (0, .ref o)], [.int (nI (fa + 4)), .ref b], M) _
      refine pl_call (a := [.ref b, .int (nI (fa + 4))]) (rest := []) rfl rfl rfl (dk_u2 (f := f) (n := n) (b := b) (da := da) (p := (fa + 4)) h_b h_da (hn) (by omega)) (fun v13 M14 q15 => ?_)
      obtain ⟨rfl, rfl⟩ := q15
      show pl _ _ _ (76, [(1, .int (nI fa)), (0, .ref o)], [.int (nI (by2 f (fa + 4)))], M) _
      have hu_73 := by2_lt f (fa + 4)
      refine ps_st (S' := (77, [(2, .int (nI (by2 f (fa + 4)))), (1, .int (nI fa)), (0, .ref o)], [], M)) rfl rfl rfl ?_
      refine ps_st (S' := (78, [(2, .int (nI (by2 f (fa + 4)))), (1, .int (nI fa)), (0, .ref o)], [.ref o], M)) rfl rfl rfl ?_
      refine ps_get (S' := (81, [(2, .int (nI (by2 f (fa + 4)))), (1, .int (nI fa)), (0, .ref o)], [.ref q], M)) rfl h_o rfl rfl ?_
      refine ps_st (S' := (82, [(2, .int (nI (by2 f (fa + 4)))), (1, .int (nI fa)), (0, .ref o)], [.int (nI (by2 f (fa + 4))), .ref q], M)) rfl rfl rfl ?_
      refine pl_call (a := [.ref q, .int (nI (by2 f (fa + 4)))]) (rest := []) rfl rfl rfl (dy_isPlainClass (f := f) (n := n) (N := N) (q := q) (E := E) (j := (by2 f (fa + 4))) (hV) (by2_lt _ _)) (fun v16 M17 q18 => ?_)
      obtain ⟨rfl, rfl⟩ := q18
      show pl _ _ _ (85, [(2, .int (nI (by2 f (fa + 4)))), (1, .int (nI fa)), (0, .ref o)], [.int (nI (plnN f n E (by2 f (fa + 4))))], M) _
      refine ps_if (S1 := (101, [(2, .int (nI (by2 f (fa + 4)))), (1, .int (nI fa)), (0, .ref o)], [], M)) (S2 := (88, [(2, .int (nI (by2 f (fa + 4)))), (1, .int (nI fa)), (0, .ref o)], [], M)) rfl rfl rfl (fun c_85 => ?_) (fun c_85 => ?_)
      · have c_85 : ¬ (nI (plnN f n E (by2 f (fa + 4)))) = 0 := of_decide_eq_true c_85
        have n_85 : ¬ (plnN f n E (by2 f (fa + 4)) = 0) := fun h9 => c_85 ((eq_nI (p := plnN f n E (by2 f (fa + 4))) (n := 0) (Nat.lt_trans (le1_pln _ _ _ _) (by decide)) (by decide)).mpr h9)
        refine ps_st (S' := (102, [(2, .int (nI (by2 f (fa + 4)))), (1, .int (nI fa)), (0, .ref o)], [.ref o], M)) rfl rfl rfl ?_
        refine ps_get (S' := (105, [(2, .int (nI (by2 f (fa + 4)))), (1, .int (nI fa)), (0, .ref o)], [.ref c], M)) rfl h_o rfl rfl ?_
        refine ps_st (S' := (108, [(2, .int (nI (by2 f (fa + 4)))), (1, .int (nI fa)), (0, .ref o)], [.int 512, .ref c], M)) rfl rfl rfl ?_
        refine pl_call (a := [.ref c, .int 512]) (rest := []) rfl rfl rfl (dk_fhas (f := f) (n := n) (q := q) (c := c) (b := b) (da := da) (fr := fr) (mr := mr) (fa := fa) (ic := ic) (mj := mj) (na := na) (pa := pa) (mi := mi) (k1 := k1) (k2 := k2) (k3 := k3) (k4 := k4) (k5 := k5) (k6 := k6) (k7 := k7) (x := 512) h_c h_b h_da (hn) (hfa)) (fun v19 M20 q21 => ?_)
        obtain ⟨rfl, rfl⟩ := q21
        show pl _ _ _ (111, [(2, .int (nI (by2 f (fa + 4)))), (1, .int (nI fa)), (0, .ref o)], [.int (nI (hasN (by2 f fa) 512))], M) _
        refine ps_if (S1 := (147, [], [], M)) (S2 := (114, [(2, .int (nI (by2 f (fa + 4)))), (1, .int (nI fa)), (0, .ref o)], [], M)) rfl rfl rfl (fun c_111 => ?_) (fun c_111 => ?_)
        · have c_111 : (nI (hasN (by2 f fa) 512)) = 0 := of_decide_eq_true c_111
          have n_111 : hasN (by2 f fa) 512 = 0 := (eq_nI (p := hasN (by2 f fa) 512) (n := 0) (Nat.lt_trans (le1_has _ _) (by decide)) (by decide)).mp c_111
          refine ps_st (S' := (148, [], [.int 1], M)) rfl rfl rfl ?_
          exact ps_ret rfl rfl (Or.inl ⟨by
              unfold hdS
              first | ((repeat first | rw [if_pos (by omega)] | rw [if_neg (by omega)]) <;> first | rfl | omega) | ((repeat' split) <;> first | rfl | (exfalso; omega) | omega), rfl, h_vd, hF⟩)
        · have c_111 : ¬ ((nI (hasN (by2 f fa) 512)) = 0) := of_decide_eq_false c_111
          have n_111 : ¬ (hasN (by2 f fa) 512 = 0) := fun h9 => c_111 ((eq_nI (p := hasN (by2 f fa) 512) (n := 0) (Nat.lt_trans (le1_has _ _) (by decide)) (by decide)).mpr h9)
          refine ps_st (S' := (115, [(2, .int (nI (by2 f (fa + 4)))), (1, .int (nI fa)), (0, .ref o)], [.ref o], M)) rfl rfl rfl ?_
          refine ps_get (S' := (118, [(2, .int (nI (by2 f (fa + 4)))), (1, .int (nI fa)), (0, .ref o)], [.ref q], M)) rfl h_o rfl rfl ?_
          refine ps_st (S' := (119, [(2, .int (nI (by2 f (fa + 4)))), (1, .int (nI fa)), (0, .ref o)], [.ref o, .ref q], M)) rfl rfl rfl ?_
          refine ps_get (S' := (122, [(2, .int (nI (by2 f (fa + 4)))), (1, .int (nI fa)), (0, .ref o)], [.ref q, .ref q], M)) rfl h_o rfl rfl ?_
          refine ps_st (S' := (123, [(2, .int (nI (by2 f (fa + 4)))), (1, .int (nI fa)), (0, .ref o)], [.int (nI (by2 f (fa + 4))), .ref q, .ref q], M)) rfl rfl rfl ?_
          refine pl_call (a := [.ref q, .int (nI (by2 f (fa + 4)))]) (rest := [.ref q]) rfl rfl rfl (dy_firstIndex (f := f) (n := n) (N := N) (q := q) (E := E) (j := (by2 f (fa + 4))) (hV) (by2_lt _ _)) (fun v22 M23 q24 => ?_)
          obtain ⟨rfl, rfl⟩ := q24
          show pl _ _ _ (126, [(2, .int (nI (by2 f (fa + 4)))), (1, .int (nI fa)), (0, .ref o)], [.int (nI (fi f E (by2 f (fa + 4)))), .ref q], M) _
          refine ps_st (S' := (128, [(2, .int (nI (by2 f (fa + 4)))), (1, .int (nI fa)), (0, .ref o)], [.ref (g.2.1 11), .int (nI (fi f E (by2 f (fa + 4)))), .ref q], M)) rfl rfl rfl ?_
          refine pl_call (a := [.ref q, .int (nI (fi f E (by2 f (fa + 4)))), .ref (g.2.1 11)]) (rest := []) rfl rfl rfl (dy_textIs (f := f) (n := n) (N := N) (q := q) (E := E) (j := (fi f E (by2 f (fa + 4)))) (k := 11) (hV) (fi_lt _ _ _) (by decide)) (fun v25 M26 q27 => ?_)
          obtain ⟨rfl, rfl⟩ := q27
          show pl _ _ _ (131, [(2, .int (nI (by2 f (fa + 4)))), (1, .int (nI fa)), (0, .ref o)], [.int (nI (eqN (tX f n E (fi f E (by2 f (fa + 4)))) (ltx 11)))], M) _
          refine ps_if (S1 := (147, [], [], M)) (S2 := (134, [(2, .int (nI (by2 f (fa + 4)))), (1, .int (nI fa)), (0, .ref o)], [], M)) rfl rfl rfl (fun c_131 => ?_) (fun c_131 => ?_)
          · have c_131 : ¬ (nI (eqN (tX f n E (fi f E (by2 f (fa + 4)))) (ltx 11))) = 0 := of_decide_eq_true c_131
            have n_131 : ¬ (eqN (tX f n E (fi f E (by2 f (fa + 4)))) (ltx 11) = 0) := fun h9 => c_131 ((eq_nI (p := eqN (tX f n E (fi f E (by2 f (fa + 4)))) (ltx 11)) (n := 0) (Nat.lt_trans (le1_eq _ _) (by decide)) (by decide)).mpr h9)
            refine ps_st (S' := (148, [], [.int 1], M)) rfl rfl rfl ?_
            exact ps_ret rfl rfl (Or.inl ⟨by
                unfold hdS
                first | ((repeat first | rw [if_pos (by omega)] | rw [if_neg (by omega)]) <;> first | rfl | omega) | ((repeat' split) <;> first | rfl | (exfalso; omega) | omega), rfl, h_vd, hF⟩)
          · have c_131 : ¬ (¬ (nI (eqN (tX f n E (fi f E (by2 f (fa + 4)))) (ltx 11))) = 0) := of_decide_eq_false c_131
            have n_131 : eqN (tX f n E (fi f E (by2 f (fa + 4)))) (ltx 11) = 0 := (eq_nI (p := eqN (tX f n E (fi f E (by2 f (fa + 4)))) (ltx 11)) (n := 0) (Nat.lt_trans (le1_eq _ _) (by decide)) (by decide)).mp (Decidable.not_not.mp c_131)
            refine ps_st (S' := (135, [(2, .int (nI (by2 f (fa + 4)))), (1, .int (nI fa)), (0, .ref o)], [.ref o], M)) rfl rfl rfl ?_
            refine ps_get (S' := (138, [(2, .int (nI (by2 f (fa + 4)))), (1, .int (nI fa)), (0, .ref o)], [.ref vd], M)) rfl h_o rfl rfl ?_
            refine ps_st (S' := (140, [(2, .int (nI (by2 f (fa + 4)))), (1, .int (nI fa)), (0, .ref o)], [.int 17, .ref vd], M)) rfl rfl rfl ?_
            refine ps_st (S' := (141, [(2, .int (nI (by2 f (fa + 4)))), (1, .int (nI fa)), (0, .ref o)], [.int (nI fa), .int 17, .ref vd], M)) rfl rfl rfl ?_
            refine ps_st (S' := (142, [(2, .int (nI (by2 f (fa + 4)))), (1, .int (nI fa)), (0, .ref o)], [.int 4, .int (nI fa), .int 17, .ref vd], M)) rfl rfl rfl ?_
            refine ps_st (S' := (143, [(2, .int (nI (by2 f (fa + 4)))), (1, .int (nI fa)), (0, .ref o)], [.int ((nI fa) + 4), .int 17, .ref vd], M)) rfl rfl rfl ?_
            rw [nI_add1 (p := fa) (k := 4) (x := 4) rfl (by omega)]
            show pl _ _ _ (_, [(2, .int (nI (by2 f (fa + 4)))), (1, .int (nI fa)), (0, .ref o)], [.int (nI (fa + 4)), .int 17, .ref vd], M) _
            refine pl_call (a := [.ref vd, .int 17, .int (nI (fa + 4))]) (rest := []) rfl rfl rfl (dk_wrong (vd := vd) (ru := ru) (wa := wa) (x1 := 17) (x2 := (nI (fa + 4))) h_vd) (fun v28 M29 q30 => ?_)
            obtain ⟨rfl, h31, f32⟩ := q30
            have h34 := (f32.1 o (nin1 (ob_ne h_o h_vd (by decide)))).trans h_o
            have h35 := (f32.1 c (nin1 (ob_ne h_c h_vd (by decide)))).trans h_c
            have h36 := (f32.1 b (nin1 (ob_ne h_b h_vd (by decide)))).trans h_b
            have h37 := (f32.1 da (nin1 (Ne.symm (ob_ar h_vd h_da)))).trans h_da
            have hF38 := hF.tr f32 (by simp)
            have hV39 := hV.keep f32.gm (n7c h_vd (by decide) (n7nil))
            show pl _ _ _ (146, [(2, .int (nI (by2 f (fa + 4)))), (1, .int (nI fa)), (0, .ref o)], [.int 0], M29) _
            exact ps_ret rfl rfl (Or.inr ⟨(17, fa + 4), by
                unfold hdS
                first | ((repeat first | rw [if_pos (by omega)] | rw [if_neg (by omega)]) <;> first | rfl | omega) | ((repeat' split) <;> first | rfl | (exfalso; omega) | omega), rfl, h31, hF38⟩)
      · have c_85 : ¬ (¬ (nI (plnN f n E (by2 f (fa + 4)))) = 0) := of_decide_eq_false c_85
        have n_85 : plnN f n E (by2 f (fa + 4)) = 0 := (eq_nI (p := plnN f n E (by2 f (fa + 4))) (n := 0) (Nat.lt_trans (le1_pln _ _ _ _) (by decide)) (by decide)).mp (Decidable.not_not.mp c_85)
        refine ps_st (S' := (89, [(2, .int (nI (by2 f (fa + 4)))), (1, .int (nI fa)), (0, .ref o)], [.ref o], M)) rfl rfl rfl ?_
        refine ps_get (S' := (92, [(2, .int (nI (by2 f (fa + 4)))), (1, .int (nI fa)), (0, .ref o)], [.ref vd], M)) rfl h_o rfl rfl ?_
        refine ps_st (S' := (94, [(2, .int (nI (by2 f (fa + 4)))), (1, .int (nI fa)), (0, .ref o)], [.int 17, .ref vd], M)) rfl rfl rfl ?_
        refine ps_st (S' := (95, [(2, .int (nI (by2 f (fa + 4)))), (1, .int (nI fa)), (0, .ref o)], [.int (nI fa), .int 17, .ref vd], M)) rfl rfl rfl ?_
        refine ps_st (S' := (96, [(2, .int (nI (by2 f (fa + 4)))), (1, .int (nI fa)), (0, .ref o)], [.int 4, .int (nI fa), .int 17, .ref vd], M)) rfl rfl rfl ?_
        refine ps_st (S' := (97, [(2, .int (nI (by2 f (fa + 4)))), (1, .int (nI fa)), (0, .ref o)], [.int ((nI fa) + 4), .int 17, .ref vd], M)) rfl rfl rfl ?_
        rw [nI_add1 (p := fa) (k := 4) (x := 4) rfl (by omega)]
        show pl _ _ _ (_, [(2, .int (nI (by2 f (fa + 4)))), (1, .int (nI fa)), (0, .ref o)], [.int (nI (fa + 4)), .int 17, .ref vd], M) _
        refine pl_call (a := [.ref vd, .int 17, .int (nI (fa + 4))]) (rest := []) rfl rfl rfl (dk_wrong (vd := vd) (ru := ru) (wa := wa) (x1 := 17) (x2 := (nI (fa + 4))) h_vd) (fun v40 M41 q42 => ?_)
        obtain ⟨rfl, h43, f44⟩ := q42
        have h46 := (f44.1 o (nin1 (ob_ne h_o h_vd (by decide)))).trans h_o
        have h47 := (f44.1 c (nin1 (ob_ne h_c h_vd (by decide)))).trans h_c
        have h48 := (f44.1 b (nin1 (ob_ne h_b h_vd (by decide)))).trans h_b
        have h49 := (f44.1 da (nin1 (Ne.symm (ob_ar h_vd h_da)))).trans h_da
        have hF50 := hF.tr f44 (by simp)
        have hV51 := hV.keep f44.gm (n7c h_vd (by decide) (n7nil))
        show pl _ _ _ (100, [(2, .int (nI (by2 f (fa + 4)))), (1, .int (nI fa)), (0, .ref o)], [.int 0], M41) _
        exact ps_ret rfl rfl (Or.inr ⟨(17, fa + 4), by
            unfold hdS
            first | ((repeat first | rw [if_pos (by omega)] | rw [if_neg (by omega)]) <;> first | rfl | omega) | ((repeat' split) <;> first | rfl | (exfalso; omega) | omega), rfl, h43, hF50⟩)
    · have c_50 : ¬ (¬ (nI (plnN f n E (by2 f (fa + 2)))) = 0) := of_decide_eq_false c_50
      have n_50 : plnN f n E (by2 f (fa + 2)) = 0 := (eq_nI (p := plnN f n E (by2 f (fa + 2))) (n := 0) (Nat.lt_trans (le1_pln _ _ _ _) (by decide)) (by decide)).mp (Decidable.not_not.mp c_50)
      refine ps_st (S' := (54, [(1, .int (nI fa)), (0, .ref o)], [.ref o], M)) rfl rfl rfl ?_
      refine ps_get (S' := (57, [(1, .int (nI fa)), (0, .ref o)], [.ref vd], M)) rfl h_o rfl rfl ?_
      refine ps_st (S' := (59, [(1, .int (nI fa)), (0, .ref o)], [.int 16, .ref vd], M)) rfl rfl rfl ?_
      refine ps_st (S' := (60, [(1, .int (nI fa)), (0, .ref o)], [.int (nI fa), .int 16, .ref vd], M)) rfl rfl rfl ?_
      refine ps_st (S' := (61, [(1, .int (nI fa)), (0, .ref o)], [.int 2, .int (nI fa), .int 16, .ref vd], M)) rfl rfl rfl ?_
      refine ps_st (S' := (62, [(1, .int (nI fa)), (0, .ref o)], [.int ((nI fa) + 2), .int 16, .ref vd], M)) rfl rfl rfl ?_
      rw [nI_add1 (p := fa) (k := 2) (x := 2) rfl (by omega)]
      show pl _ _ _ (_, [(1, .int (nI fa)), (0, .ref o)], [.int (nI (fa + 2)), .int 16, .ref vd], M) _
      refine pl_call (a := [.ref vd, .int 16, .int (nI (fa + 2))]) (rest := []) rfl rfl rfl (dk_wrong (vd := vd) (ru := ru) (wa := wa) (x1 := 16) (x2 := (nI (fa + 2))) h_vd) (fun v52 M53 q54 => ?_)
      obtain ⟨rfl, h55, f56⟩ := q54
      have h58 := (f56.1 o (nin1 (ob_ne h_o h_vd (by decide)))).trans h_o
      have h59 := (f56.1 c (nin1 (ob_ne h_c h_vd (by decide)))).trans h_c
      have h60 := (f56.1 b (nin1 (ob_ne h_b h_vd (by decide)))).trans h_b
      have h61 := (f56.1 da (nin1 (Ne.symm (ob_ar h_vd h_da)))).trans h_da
      have hF62 := hF.tr f56 (by simp)
      have hV63 := hV.keep f56.gm (n7c h_vd (by decide) (n7nil))
      show pl _ _ _ (65, [(1, .int (nI fa)), (0, .ref o)], [.int 0], M53) _
      exact ps_ret rfl rfl (Or.inr ⟨(16, fa + 2), by
          unfold hdS
          first | ((repeat first | rw [if_pos (by omega)] | rw [if_neg (by omega)]) <;> first | rfl | omega) | ((repeat' split) <;> first | rfl | (exfalso; omega) | omega), rfl, h55, hF62⟩)
  · have c_19 : ¬ (¬ (nI (cflN (by2 f fa))) = 0) := of_decide_eq_false c_19
    have n_19 : cflN (by2 f fa) = 0 := (eq_nI (p := cflN (by2 f fa)) (n := 0) (Nat.lt_trans (le1_cfl _) (by decide)) (by decide)).mp (Decidable.not_not.mp c_19)
    refine ps_st (S' := (23, [(1, .int (nI fa)), (0, .ref o)], [.ref o], M)) rfl rfl rfl ?_
    refine ps_get (S' := (26, [(1, .int (nI fa)), (0, .ref o)], [.ref vd], M)) rfl h_o rfl rfl ?_
    refine ps_st (S' := (28, [(1, .int (nI fa)), (0, .ref o)], [.int 15, .ref vd], M)) rfl rfl rfl ?_
    refine ps_st (S' := (29, [(1, .int (nI fa)), (0, .ref o)], [.int (nI fa), .int 15, .ref vd], M)) rfl rfl rfl ?_
    refine pl_call (a := [.ref vd, .int 15, .int (nI fa)]) (rest := []) rfl rfl rfl (dk_wrong (vd := vd) (ru := ru) (wa := wa) (x1 := 15) (x2 := (nI fa)) h_vd) (fun v64 M65 q66 => ?_)
    obtain ⟨rfl, h67, f68⟩ := q66
    have h70 := (f68.1 o (nin1 (ob_ne h_o h_vd (by decide)))).trans h_o
    have h71 := (f68.1 c (nin1 (ob_ne h_c h_vd (by decide)))).trans h_c
    have h72 := (f68.1 b (nin1 (ob_ne h_b h_vd (by decide)))).trans h_b
    have h73 := (f68.1 da (nin1 (Ne.symm (ob_ar h_vd h_da)))).trans h_da
    have hF74 := hF.tr f68 (by simp)
    have hV75 := hV.keep f68.gm (n7c h_vd (by decide) (n7nil))
    show pl _ _ _ (32, [(1, .int (nI fa)), (0, .ref o)], [.int 0], M65) _
    exact ps_ret rfl rfl (Or.inr ⟨(15, fa), by
        unfold hdS
        first | ((repeat first | rw [if_pos (by omega)] | rw [if_neg (by omega)]) <;> first | rfl | omega) | ((repeat' split) <;> first | rfl | (exfalso; omega) | omega), rfl, h67, hF74⟩)
set_option maxHeartbeats 1000000 in
theorem dk_interfacesHold {g : xe_G} {M : mi_H} {f : Nat → Int32} {n N q : Nat} {E : List (Nat × Nat)} {o c b da vd ac fr mr fa ic mj na pa : Nat} {mi ru wa k1 k2 k3 k4 k5 k6 k7 : Int32} (h_o : M.1 o = some (ob 2 [.ref c, .ref b, .ref q, .ref vd, .ref ac])) (h_c : M.1 c = some (ob 3 [.ref b, .ref q, .int mi, .int (nI mj), .int (nI fa), .int (nI ic), .ref fr, .ref mr, .int (nI na), .int (nI pa), .int k1, .int k2, .int k3, .int k4, .int k5, .int k6, .int k7])) (h_b : M.1 b = some (ob 1 [.ref da])) (h_da : M.1 da = some (ar .byte n f)) (h_vd : M.1 vd = some (ob 10 [.int ru, .int wa])) (hn : n ≤ 65540) (hmj : mj < 65536) (hfa : fa + 8 ≤ n) (hic : fa + 8 + 2 * ic ≤ n) (hV : PV g f n N E q M) : pt (mT g) 62 [.ref o] M (fun v M' => ((ifS f n E (fa + 8) ic 0 = none) ∧ v = some (.int 1) ∧ M'.1 vd = some (ob 10 [.int ru, .int wa]) ∧ fm [vd] M M') ∨ (∃ (e : Nat × Nat), (ifS f n E (fa + 8) ic 0 = some e) ∧ v = some (.int 0) ∧ M'.1 vd = some (ob 10 [.int (nI e.1), .int (nI e.2)]) ∧ fm [vd] M M')) := by
  refine pt_in (b := mb_62 g) rfl (fun kf => ?_)
  show pl (mT g) kf (mb_62 g).2 (0, [(0, .ref o)], [], M) _
  have hF : fm [vd] M M := fm.rf
  have LL : ∀ (kf : Nat), (∀ (i : Nat) (M1 : mi_H), (M1.1 o = some (ob 2 [.ref c, .ref b, .ref q, .ref vd, .ref ac])) → (M1.1 c = some (ob 3 [.ref b, .ref q, .int mi, .int (nI mj), .int (nI fa), .int (nI ic), .ref fr, .ref mr, .int (nI na), .int (nI pa), .int k1, .int k2, .int k3, .int k4, .int k5, .int k6, .int k7])) → (M1.1 b = some (ob 1 [.ref da])) → (M1.1 da = some (ar .byte n f)) → (M1.1 vd = some (ob 10 [.int ru, .int wa])) → (PV g f n N E q M1) → (fm [vd] M M1) → (i ≤ ic) → (ifS f n E (fa + 8) (ic - i) i = ifS f n E (fa + 8) ic 0) →  pl (mT g) kf (mb_62 g).2 (13, [(0, .ref o), (1, .int (nI (fa + 8))), (2, .int (nI i))], [], M1) (fun v M' => ((ifS f n E (fa + 8) ic 0 = none) ∧ v = some (.int 1) ∧ M'.1 vd = some (ob 10 [.int ru, .int wa]) ∧ fm [vd] M M') ∨ (∃ (e : Nat × Nat), (ifS f n E (fa + 8) ic 0 = some e) ∧ v = some (.int 0) ∧ M'.1 vd = some (ob 10 [.int (nI e.1), .int (nI e.2)]) ∧ fm [vd] M M'))) ∧ (∀ (i j : Nat) (M1 : mi_H), (M1.1 o = some (ob 2 [.ref c, .ref b, .ref q, .ref vd, .ref ac])) → (M1.1 c = some (ob 3 [.ref b, .ref q, .int mi, .int (nI mj), .int (nI fa), .int (nI ic), .ref fr, .ref mr, .int (nI na), .int (nI pa), .int k1, .int k2, .int k3, .int k4, .int k5, .int k6, .int k7])) → (M1.1 b = some (ob 1 [.ref da])) → (M1.1 da = some (ar .byte n f)) → (M1.1 vd = some (ob 10 [.int ru, .int wa])) → (PV g f n N E q M1) → (fm [vd] M M1) → (i < ic) → (j ≤ i) → (ifS f n E (fa + 8) (ic - i) i = ifS f n E (fa + 8) ic 0) → (¬ plnN f n E (by2 f (fa + 8 + 2 * i)) = 0) → (dupN f n E (fa + 8) (by2 f (fa + 8 + 2 * i)) (i - j) j = dupN f n E (fa + 8) (by2 f (fa + 8 + 2 * i)) i 0) →  pl (mT g) kf (mb_62 g).2 (66, [(0, .ref o), (1, .int (nI (fa + 8))), (2, .int (nI i)), (3, .int (nI (by2 f (fa + 8 + 2 * i)))), (4, .int (nI j))], [], M1) (fun v M' => ((ifS f n E (fa + 8) ic 0 = none) ∧ v = some (.int 1) ∧ M'.1 vd = some (ob 10 [.int ru, .int wa]) ∧ fm [vd] M M') ∨ (∃ (e : Nat × Nat), (ifS f n E (fa + 8) ic 0 = some e) ∧ v = some (.int 0) ∧ M'.1 vd = some (ob 10 [.int (nI e.1), .int (nI e.2)]) ∧ fm [vd] M M'))) := by
    intro kf
    induction kf with
    | zero => exact ⟨by intros; exact pl_0, by intros; exact pl_0⟩
    | succ kf ih =>
      refine ⟨?_, ?_⟩
      · skip
        intro i M1 hl_o hl_c hl_b hl_da hl_vd hV1 hF1 hi hs
        refine ps_st1 (S' := (14, [(0, .ref o), (1, .int (nI (fa + 8))), (2, .int (nI i))], [.int (nI i)], M1)) rfl rfl rfl ?_
        refine ps_st (S' := (15, [(0, .ref o), (1, .int (nI (fa + 8))), (2, .int (nI i))], [.ref o, .int (nI i)], M1)) rfl rfl rfl ?_
        refine ps_get (S' := (18, [(0, .ref o), (1, .int (nI (fa + 8))), (2, .int (nI i))], [.ref c, .int (nI i)], M1)) rfl hl_o rfl rfl ?_
        refine ps_get (S' := (21, [(0, .ref o), (1, .int (nI (fa + 8))), (2, .int (nI i))], [.int (nI ic), .int (nI i)], M1)) rfl hl_c rfl rfl ?_
        refine ps_if2 (S1 := (141, [(0, .ref o), (1, .int (nI (fa + 8))), (2, .int (nI i))], [], M1)) (S2 := (24, [(0, .ref o), (1, .int (nI (fa + 8))), (2, .int (nI i))], [], M1)) rfl rfl rfl (fun c_21 => ?_) (fun c_21 => ?_)
        · have c_21 : (nI ic) ≤ (nI i) := of_decide_eq_true c_21
          have n_21 : ic ≤ i := (le_nI (p := ic) (n := i) (by omega) (by omega)).mp c_21
          refine ps_st (S' := (142, [(0, .ref o), (1, .int (nI (fa + 8))), (2, .int (nI i))], [.int 1], M1)) rfl rfl rfl ?_
          exact ps_ret rfl rfl (Or.inl ⟨by rw [← hs, show ic - i = 0 by omega]; rfl, rfl, hl_vd, hF1⟩)
        · have c_21 : ¬ ((nI ic) ≤ (nI i)) := of_decide_eq_false c_21
          have n_21 : ¬ (ic ≤ i) := fun h9 => c_21 ((le_nI (p := ic) (n := i) (by omega) (by omega)).mpr h9)
          refine ps_st (S' := (25, [(0, .ref o), (1, .int (nI (fa + 8))), (2, .int (nI i))], [.ref o], M1)) rfl rfl rfl ?_
          refine ps_get (S' := (28, [(0, .ref o), (1, .int (nI (fa + 8))), (2, .int (nI i))], [.ref b], M1)) rfl hl_o rfl rfl ?_
          refine ps_st (S' := (29, [(0, .ref o), (1, .int (nI (fa + 8))), (2, .int (nI i))], [.int (nI (fa + 8)), .ref b], M1)) rfl rfl rfl ?_
          refine ps_st (S' := (30, [(0, .ref o), (1, .int (nI (fa + 8))), (2, .int (nI i))], [.int 2, .int (nI (fa + 8)), .ref b], M1)) rfl rfl rfl ?_
          refine ps_st (S' := (31, [(0, .ref o), (1, .int (nI (fa + 8))), (2, .int (nI i))], [.int (nI i), .int 2, .int (nI (fa + 8)), .ref b], M1)) rfl rfl rfl ?_
          refine ps_st (S' := (32, [(0, .ref o), (1, .int (nI (fa + 8))), (2, .int (nI i))], [.int (2 * (nI i)), .int (nI (fa + 8)), .ref b], M1)) rfl rfl rfl ?_
          rw [nI_mul1 (p := 2) (k := i) (x := 2) (y := (nI i)) rfl rfl (by omega)]
          show pl _ _ _ (_, [(0, .ref o), (1, .int (nI (fa + 8))), (2, .int (nI i))], [.int (nI (2 * i)), .int (nI (fa + 8)), .ref b], M1) _
          refine ps_st (S' := (33, [(0, .ref o), (1, .int (nI (fa + 8))), (2, .int (nI i))], [.int ((nI (fa + 8)) + (nI (2 * i))), .ref b], M1)) rfl rfl rfl ?_
          rw [nI_add1 (p := fa + 8) (k := 2 * i) (x := (nI (2 * i))) rfl (by omega)]
          show pl _ _ _ (_, [(0, .ref o), (1, .int (nI (fa + 8))), (2, .int (nI i))], [.int (nI (fa + 8 + 2 * i)), .ref b], M1) _
          refine pl_call (a := [.ref b, .int (nI (fa + 8 + 2 * i))]) (rest := []) rfl rfl rfl (dk_u2 (f := f) (n := n) (b := b) (da := da) (p := (fa + 8 + 2 * i)) hl_b hl_da (hn) (by omega)) (fun v1 M2 q3 => ?_)
          obtain ⟨rfl, rfl⟩ := q3
          show pl _ _ _ (36, [(0, .ref o), (1, .int (nI (fa + 8))), (2, .int (nI i))], [.int (nI (by2 f (fa + 8 + 2 * i)))], M1) _
          have hu_33 := by2_lt f (fa + 8 + 2 * i)
          refine ps_st (S' := (37, [(3, .int (nI (by2 f (fa + 8 + 2 * i)))), (0, .ref o), (1, .int (nI (fa + 8))), (2, .int (nI i))], [], M1)) rfl rfl rfl ?_
          refine ps_st (S' := (38, [(3, .int (nI (by2 f (fa + 8 + 2 * i)))), (0, .ref o), (1, .int (nI (fa + 8))), (2, .int (nI i))], [.ref o], M1)) rfl rfl rfl ?_
          refine ps_get (S' := (41, [(3, .int (nI (by2 f (fa + 8 + 2 * i)))), (0, .ref o), (1, .int (nI (fa + 8))), (2, .int (nI i))], [.ref q], M1)) rfl hl_o rfl rfl ?_
          refine ps_st (S' := (42, [(3, .int (nI (by2 f (fa + 8 + 2 * i)))), (0, .ref o), (1, .int (nI (fa + 8))), (2, .int (nI i))], [.int (nI (by2 f (fa + 8 + 2 * i))), .ref q], M1)) rfl rfl rfl ?_
          refine pl_call (a := [.ref q, .int (nI (by2 f (fa + 8 + 2 * i)))]) (rest := []) rfl rfl rfl (dy_isPlainClass (f := f) (n := n) (N := N) (q := q) (E := E) (j := (by2 f (fa + 8 + 2 * i))) (hV1) (by2_lt _ _)) (fun v4 M5 q6 => ?_)
          obtain ⟨rfl, rfl⟩ := q6
          show pl _ _ _ (45, [(3, .int (nI (by2 f (fa + 8 + 2 * i)))), (0, .ref o), (1, .int (nI (fa + 8))), (2, .int (nI i))], [.int (nI (plnN f n E (by2 f (fa + 8 + 2 * i))))], M1) _
          refine ps_if (S1 := (63, [(3, .int (nI (by2 f (fa + 8 + 2 * i)))), (0, .ref o), (1, .int (nI (fa + 8))), (2, .int (nI i))], [], M1)) (S2 := (48, [(3, .int (nI (by2 f (fa + 8 + 2 * i)))), (0, .ref o), (1, .int (nI (fa + 8))), (2, .int (nI i))], [], M1)) rfl rfl rfl (fun c_45 => ?_) (fun c_45 => ?_)
          · have c_45 : ¬ (nI (plnN f n E (by2 f (fa + 8 + 2 * i)))) = 0 := of_decide_eq_true c_45
            have n_45 : ¬ (plnN f n E (by2 f (fa + 8 + 2 * i)) = 0) := fun h9 => c_45 ((eq_nI (p := plnN f n E (by2 f (fa + 8 + 2 * i))) (n := 0) (Nat.lt_trans (le1_pln _ _ _ _) (by decide)) (by decide)).mpr h9)
            refine ps_st (S' := (64, [(3, .int (nI (by2 f (fa + 8 + 2 * i)))), (0, .ref o), (1, .int (nI (fa + 8))), (2, .int (nI i))], [.int 0], M1)) rfl rfl rfl ?_
            refine ps_st (S' := (66, [(0, .ref o), (1, .int (nI (fa + 8))), (2, .int (nI i)), (3, .int (nI (by2 f (fa + 8 + 2 * i)))), (4, .int 0)], [], M1)) rfl rfl rfl ?_
            exact ih.2 (i) (0) M1 hl_o hl_c hl_b hl_da hl_vd hV1 hF1 (by omega) (by omega) (hs) (by omega) (rfl)
          · have c_45 : ¬ (¬ (nI (plnN f n E (by2 f (fa + 8 + 2 * i)))) = 0) := of_decide_eq_false c_45
            have n_45 : plnN f n E (by2 f (fa + 8 + 2 * i)) = 0 := (eq_nI (p := plnN f n E (by2 f (fa + 8 + 2 * i))) (n := 0) (Nat.lt_trans (le1_pln _ _ _ _) (by decide)) (by decide)).mp (Decidable.not_not.mp c_45)
            refine ps_st (S' := (49, [(3, .int (nI (by2 f (fa + 8 + 2 * i)))), (0, .ref o), (1, .int (nI (fa + 8))), (2, .int (nI i))], [.ref o], M1)) rfl rfl rfl ?_
            refine ps_get (S' := (52, [(3, .int (nI (by2 f (fa + 8 + 2 * i)))), (0, .ref o), (1, .int (nI (fa + 8))), (2, .int (nI i))], [.ref vd], M1)) rfl hl_o rfl rfl ?_
            refine ps_st (S' := (54, [(3, .int (nI (by2 f (fa + 8 + 2 * i)))), (0, .ref o), (1, .int (nI (fa + 8))), (2, .int (nI i))], [.int 18, .ref vd], M1)) rfl rfl rfl ?_
            refine ps_st (S' := (55, [(3, .int (nI (by2 f (fa + 8 + 2 * i)))), (0, .ref o), (1, .int (nI (fa + 8))), (2, .int (nI i))], [.int (nI (fa + 8)), .int 18, .ref vd], M1)) rfl rfl rfl ?_
            refine ps_st (S' := (56, [(3, .int (nI (by2 f (fa + 8 + 2 * i)))), (0, .ref o), (1, .int (nI (fa + 8))), (2, .int (nI i))], [.int 2, .int (nI (fa + 8)), .int 18, .ref vd], M1)) rfl rfl rfl ?_
            refine ps_st (S' := (57, [(3, .int (nI (by2 f (fa + 8 + 2 * i)))), (0, .ref o), (1, .int (nI (fa + 8))), (2, .int (nI i))], [.int (nI i), .int 2, .int (nI (fa + 8)), .int 18, .ref vd], M1)) rfl rfl rfl ?_
            refine ps_st (S' := (58, [(3, .int (nI (by2 f (fa + 8 + 2 * i)))), (0, .ref o), (1, .int (nI (fa + 8))), (2, .int (nI i))], [.int (2 * (nI i)), .int (nI (fa + 8)), .int 18, .ref vd], M1)) rfl rfl rfl ?_
            rw [nI_mul1 (p := 2) (k := i) (x := 2) (y := (nI i)) rfl rfl (by omega)]
            show pl _ _ _ (_, [(3, .int (nI (by2 f (fa + 8 + 2 * i)))), (0, .ref o), (1, .int (nI (fa + 8))), (2, .int (nI i))], [.int (nI (2 * i)), .int (nI (fa + 8)), .int 18, .ref vd], M1) _
            refine ps_st (S' := (59, [(3, .int (nI (by2 f (fa + 8 + 2 * i)))), (0, .ref o), (1, .int (nI (fa + 8))), (2, .int (nI i))], [.int ((nI (fa + 8)) + (nI (2 * i))), .int 18, .ref vd], M1)) rfl rfl rfl ?_
            rw [nI_add1 (p := fa + 8) (k := 2 * i) (x := (nI (2 * i))) rfl (by omega)]
            show pl _ _ _ (_, [(3, .int (nI (by2 f (fa + 8 + 2 * i)))), (0, .ref o), (1, .int (nI (fa + 8))), (2, .int (nI i))], [.int (nI (fa + 8 + 2 * i)), .int 18, .ref vd], M1) _
            refine pl_call (a := [.ref vd, .int 18, .int (nI (fa + 8 + 2 * i))]) (rest := []) rfl rfl rfl (dk_wrong (vd := vd) (ru := ru) (wa := wa) (x1 := 18) (x2 := (nI (fa + 8 + 2 * i))) hl_vd) (fun v7 M8 q9 => ?_)
            obtain ⟨rfl, h10, f11⟩ := q9
            have h13 := (f11.1 o (nin1 (ob_ne hl_o hl_vd (by decide)))).trans hl_o
            have h14 := (f11.1 c (nin1 (ob_ne hl_c hl_vd (by decide)))).trans hl_c
            have h15 := (f11.1 b (nin1 (ob_ne hl_b hl_vd (by decide)))).trans hl_b
            have h16 := (f11.1 da (nin1 (Ne.symm (ob_ar hl_vd hl_da)))).trans hl_da
            have hF17 := hF1.tr f11 (by simp)
            have hV18 := hV1.keep f11.gm (n7c hl_vd (by decide) (n7nil))
            show pl _ _ _ (62, [(3, .int (nI (by2 f (fa + 8 + 2 * i)))), (0, .ref o), (1, .int (nI (fa + 8))), (2, .int (nI i))], [.int 0], M8) _
            exact ps_ret rfl rfl (Or.inr ⟨(18, fa + 8 + 2 * i), by
                rw [← hs, ifS_st (i := i) (by omega), if_pos (by omega)], rfl, h10, hF17⟩)
      · skip
        intro i j M1 hl_o hl_c hl_b hl_da hl_vd hV1 hF1 hi hj hs hp hd
        have hu9 := by2_lt f (fa + 8 + 2 * i)
        refine ps_st1 (S' := (68, [(0, .ref o), (1, .int (nI (fa + 8))), (2, .int (nI i)), (3, .int (nI (by2 f (fa + 8 + 2 * i)))), (4, .int (nI j))], [.int (nI j)], M1)) rfl rfl rfl ?_
        refine ps_st (S' := (69, [(0, .ref o), (1, .int (nI (fa + 8))), (2, .int (nI i)), (3, .int (nI (by2 f (fa + 8 + 2 * i)))), (4, .int (nI j))], [.int (nI i), .int (nI j)], M1)) rfl rfl rfl ?_
        refine ps_if2 (S1 := (135, [(0, .ref o), (1, .int (nI (fa + 8))), (2, .int (nI i)), (3, .int (nI (by2 f (fa + 8 + 2 * i)))), (4, .int (nI j))], [], M1)) (S2 := (72, [(0, .ref o), (1, .int (nI (fa + 8))), (2, .int (nI i)), (3, .int (nI (by2 f (fa + 8 + 2 * i)))), (4, .int (nI j))], [], M1)) rfl rfl rfl (fun c_69 => ?_) (fun c_69 => ?_)
        · have c_69 : (nI i) ≤ (nI j) := of_decide_eq_true c_69
          have n_69 : i ≤ j := (le_nI (p := i) (n := j) (by omega) (by omega)).mp c_69
          refine ps_st (S' := (138, [(2, .int ((nI i) + 1)), (0, .ref o), (1, .int (nI (fa + 8))), (3, .int (nI (by2 f (fa + 8 + 2 * i)))), (4, .int (nI j))], [], M1)) rfl rfl rfl ?_
          rw [nI_add1 (p := i) (k := 1) (x := 1) rfl (by omega)]
          show pl _ _ _ (_, [(2, .int (nI (i + 1))), (0, .ref o), (1, .int (nI (fa + 8))), (3, .int (nI (by2 f (fa + 8 + 2 * i)))), (4, .int (nI j))], [], M1) _
          refine ps_st (S' := (13, [(0, .ref o), (1, .int (nI (fa + 8))), (2, .int (nI (i + 1)))], [], M1)) rfl rfl rfl ?_
          exact ih.1 (i + 1) M1 hl_o hl_c hl_b hl_da hl_vd hV1 hF1 (by omega) (by
              rw [← hs, ifS_st (i := i) (by omega), if_neg (by omega), if_neg (by rw [← hd, show i - j = 0 by omega]; exact fun h => h rfl)])
        · have c_69 : ¬ ((nI i) ≤ (nI j)) := of_decide_eq_false c_69
          have n_69 : ¬ (i ≤ j) := fun h9 => c_69 ((le_nI (p := i) (n := j) (by omega) (by omega)).mpr h9)
          refine ps_st (S' := (73, [(0, .ref o), (1, .int (nI (fa + 8))), (2, .int (nI i)), (3, .int (nI (by2 f (fa + 8 + 2 * i)))), (4, .int (nI j))], [.ref o], M1)) rfl rfl rfl ?_
          refine ps_get (S' := (76, [(0, .ref o), (1, .int (nI (fa + 8))), (2, .int (nI i)), (3, .int (nI (by2 f (fa + 8 + 2 * i)))), (4, .int (nI j))], [.ref b], M1)) rfl hl_o rfl rfl ?_
          refine ps_st (S' := (77, [(0, .ref o), (1, .int (nI (fa + 8))), (2, .int (nI i)), (3, .int (nI (by2 f (fa + 8 + 2 * i)))), (4, .int (nI j))], [.int (nI (fa + 8)), .ref b], M1)) rfl rfl rfl ?_
          refine ps_st (S' := (78, [(0, .ref o), (1, .int (nI (fa + 8))), (2, .int (nI i)), (3, .int (nI (by2 f (fa + 8 + 2 * i)))), (4, .int (nI j))], [.int 2, .int (nI (fa + 8)), .ref b], M1)) rfl rfl rfl ?_
          refine ps_st (S' := (80, [(0, .ref o), (1, .int (nI (fa + 8))), (2, .int (nI i)), (3, .int (nI (by2 f (fa + 8 + 2 * i)))), (4, .int (nI j))], [.int (nI j), .int 2, .int (nI (fa + 8)), .ref b], M1)) rfl rfl rfl ?_
          refine ps_st (S' := (81, [(0, .ref o), (1, .int (nI (fa + 8))), (2, .int (nI i)), (3, .int (nI (by2 f (fa + 8 + 2 * i)))), (4, .int (nI j))], [.int (2 * (nI j)), .int (nI (fa + 8)), .ref b], M1)) rfl rfl rfl ?_
          rw [nI_mul1 (p := 2) (k := j) (x := 2) (y := (nI j)) rfl rfl (by omega)]
          show pl _ _ _ (_, [(0, .ref o), (1, .int (nI (fa + 8))), (2, .int (nI i)), (3, .int (nI (by2 f (fa + 8 + 2 * i)))), (4, .int (nI j))], [.int (nI (2 * j)), .int (nI (fa + 8)), .ref b], M1) _
          refine ps_st (S' := (82, [(0, .ref o), (1, .int (nI (fa + 8))), (2, .int (nI i)), (3, .int (nI (by2 f (fa + 8 + 2 * i)))), (4, .int (nI j))], [.int ((nI (fa + 8)) + (nI (2 * j))), .ref b], M1)) rfl rfl rfl ?_
          rw [nI_add1 (p := fa + 8) (k := 2 * j) (x := (nI (2 * j))) rfl (by omega)]
          show pl _ _ _ (_, [(0, .ref o), (1, .int (nI (fa + 8))), (2, .int (nI i)), (3, .int (nI (by2 f (fa + 8 + 2 * i)))), (4, .int (nI j))], [.int (nI (fa + 8 + 2 * j)), .ref b], M1) _
          refine pl_call (a := [.ref b, .int (nI (fa + 8 + 2 * j))]) (rest := []) rfl rfl rfl (dk_u2 (f := f) (n := n) (b := b) (da := da) (p := (fa + 8 + 2 * j)) hl_b hl_da (hn) (by omega)) (fun v19 M20 q21 => ?_)
          obtain ⟨rfl, rfl⟩ := q21
          show pl _ _ _ (85, [(0, .ref o), (1, .int (nI (fa + 8))), (2, .int (nI i)), (3, .int (nI (by2 f (fa + 8 + 2 * i)))), (4, .int (nI j))], [.int (nI (by2 f (fa + 8 + 2 * j)))], M1) _
          have hu_82 := by2_lt f (fa + 8 + 2 * j)
          refine ps_st (S' := (87, [(5, .int (nI (by2 f (fa + 8 + 2 * j)))), (0, .ref o), (1, .int (nI (fa + 8))), (2, .int (nI i)), (3, .int (nI (by2 f (fa + 8 + 2 * i)))), (4, .int (nI j))], [], M1)) rfl rfl rfl ?_
          refine ps_st (S' := (88, [(5, .int (nI (by2 f (fa + 8 + 2 * j)))), (0, .ref o), (1, .int (nI (fa + 8))), (2, .int (nI i)), (3, .int (nI (by2 f (fa + 8 + 2 * i)))), (4, .int (nI j))], [.ref o], M1)) rfl rfl rfl ?_
          refine ps_get (S' := (91, [(5, .int (nI (by2 f (fa + 8 + 2 * j)))), (0, .ref o), (1, .int (nI (fa + 8))), (2, .int (nI i)), (3, .int (nI (by2 f (fa + 8 + 2 * i)))), (4, .int (nI j))], [.ref q], M1)) rfl hl_o rfl rfl ?_
          refine ps_st (S' := (92, [(5, .int (nI (by2 f (fa + 8 + 2 * j)))), (0, .ref o), (1, .int (nI (fa + 8))), (2, .int (nI i)), (3, .int (nI (by2 f (fa + 8 + 2 * i)))), (4, .int (nI j))], [.ref o, .ref q], M1)) rfl rfl rfl ?_
          refine ps_get (S' := (95, [(5, .int (nI (by2 f (fa + 8 + 2 * j)))), (0, .ref o), (1, .int (nI (fa + 8))), (2, .int (nI i)), (3, .int (nI (by2 f (fa + 8 + 2 * i)))), (4, .int (nI j))], [.ref q, .ref q], M1)) rfl hl_o rfl rfl ?_
          refine ps_st (S' := (97, [(5, .int (nI (by2 f (fa + 8 + 2 * j)))), (0, .ref o), (1, .int (nI (fa + 8))), (2, .int (nI i)), (3, .int (nI (by2 f (fa + 8 + 2 * i)))), (4, .int (nI j))], [.int (nI (by2 f (fa + 8 + 2 * j))), .ref q, .ref q], M1)) rfl rfl rfl ?_
          refine pl_call (a := [.ref q, .int (nI (by2 f (fa + 8 + 2 * j)))]) (rest := [.ref q]) rfl rfl rfl (dy_firstIndex (f := f) (n := n) (N := N) (q := q) (E := E) (j := (by2 f (fa + 8 + 2 * j))) (hV1) (by2_lt _ _)) (fun v22 M23 q24 => ?_)
          obtain ⟨rfl, rfl⟩ := q24
          show pl _ _ _ (100, [(5, .int (nI (by2 f (fa + 8 + 2 * j)))), (0, .ref o), (1, .int (nI (fa + 8))), (2, .int (nI i)), (3, .int (nI (by2 f (fa + 8 + 2 * i)))), (4, .int (nI j))], [.int (nI (fi f E (by2 f (fa + 8 + 2 * j)))), .ref q], M1) _
          refine ps_st (S' := (101, [(5, .int (nI (by2 f (fa + 8 + 2 * j)))), (0, .ref o), (1, .int (nI (fa + 8))), (2, .int (nI i)), (3, .int (nI (by2 f (fa + 8 + 2 * i)))), (4, .int (nI j))], [.ref o, .int (nI (fi f E (by2 f (fa + 8 + 2 * j)))), .ref q], M1)) rfl rfl rfl ?_
          refine ps_get (S' := (104, [(5, .int (nI (by2 f (fa + 8 + 2 * j)))), (0, .ref o), (1, .int (nI (fa + 8))), (2, .int (nI i)), (3, .int (nI (by2 f (fa + 8 + 2 * i)))), (4, .int (nI j))], [.ref q, .int (nI (fi f E (by2 f (fa + 8 + 2 * j)))), .ref q], M1)) rfl hl_o rfl rfl ?_
          refine ps_st (S' := (105, [(5, .int (nI (by2 f (fa + 8 + 2 * j)))), (0, .ref o), (1, .int (nI (fa + 8))), (2, .int (nI i)), (3, .int (nI (by2 f (fa + 8 + 2 * i)))), (4, .int (nI j))], [.int (nI (by2 f (fa + 8 + 2 * i))), .ref q, .int (nI (fi f E (by2 f (fa + 8 + 2 * j)))), .ref q], M1)) rfl rfl rfl ?_
          refine pl_call (a := [.ref q, .int (nI (by2 f (fa + 8 + 2 * i)))]) (rest := [.int (nI (fi f E (by2 f (fa + 8 + 2 * j)))), .ref q]) rfl rfl rfl (dy_firstIndex (f := f) (n := n) (N := N) (q := q) (E := E) (j := (by2 f (fa + 8 + 2 * i))) (hV1) (by2_lt _ _)) (fun v25 M26 q27 => ?_)
          obtain ⟨rfl, rfl⟩ := q27
          show pl _ _ _ (108, [(5, .int (nI (by2 f (fa + 8 + 2 * j)))), (0, .ref o), (1, .int (nI (fa + 8))), (2, .int (nI i)), (3, .int (nI (by2 f (fa + 8 + 2 * i)))), (4, .int (nI j))], [.int (nI (fi f E (by2 f (fa + 8 + 2 * i)))), .int (nI (fi f E (by2 f (fa + 8 + 2 * j)))), .ref q], M1) _
          refine pl_call (a := [.ref q, .int (nI (fi f E (by2 f (fa + 8 + 2 * j)))), .int (nI (fi f E (by2 f (fa + 8 + 2 * i))))]) (rest := []) rfl rfl rfl (dy_sameText (f := f) (n := n) (N := N) (q := q) (E := E) (j := (fi f E (by2 f (fa + 8 + 2 * j)))) (k := (fi f E (by2 f (fa + 8 + 2 * i)))) (hV1) (fi_lt _ _ _) (fi_lt _ _ _)) (fun v28 M29 q30 => ?_)
          obtain ⟨rfl, rfl⟩ := q30
          show pl _ _ _ (111, [(5, .int (nI (by2 f (fa + 8 + 2 * j)))), (0, .ref o), (1, .int (nI (fa + 8))), (2, .int (nI i)), (3, .int (nI (by2 f (fa + 8 + 2 * i)))), (4, .int (nI j))], [.int (nI (smN f n E (fi f E (by2 f (fa + 8 + 2 * j))) (fi f E (by2 f (fa + 8 + 2 * i)))))], M1) _
          refine ps_if (S1 := (129, [(5, .int (nI (by2 f (fa + 8 + 2 * j)))), (0, .ref o), (1, .int (nI (fa + 8))), (2, .int (nI i)), (3, .int (nI (by2 f (fa + 8 + 2 * i)))), (4, .int (nI j))], [], M1)) (S2 := (114, [(5, .int (nI (by2 f (fa + 8 + 2 * j)))), (0, .ref o), (1, .int (nI (fa + 8))), (2, .int (nI i)), (3, .int (nI (by2 f (fa + 8 + 2 * i)))), (4, .int (nI j))], [], M1)) rfl rfl rfl (fun c_111 => ?_) (fun c_111 => ?_)
          · have c_111 : (nI (smN f n E (fi f E (by2 f (fa + 8 + 2 * j))) (fi f E (by2 f (fa + 8 + 2 * i))))) = 0 := of_decide_eq_true c_111
            have n_111 : smN f n E (fi f E (by2 f (fa + 8 + 2 * j))) (fi f E (by2 f (fa + 8 + 2 * i))) = 0 := (eq_nI (p := smN f n E (fi f E (by2 f (fa + 8 + 2 * j))) (fi f E (by2 f (fa + 8 + 2 * i)))) (n := 0) (Nat.lt_trans (le1_sm _ _ _ _ _) (by decide)) (by decide)).mp c_111
            refine ps_st (S' := (132, [(4, .int ((nI j) + 1)), (5, .int (nI (by2 f (fa + 8 + 2 * j)))), (0, .ref o), (1, .int (nI (fa + 8))), (2, .int (nI i)), (3, .int (nI (by2 f (fa + 8 + 2 * i))))], [], M1)) rfl rfl rfl ?_
            rw [nI_add1 (p := j) (k := 1) (x := 1) rfl (by omega)]
            show pl _ _ _ (_, [(4, .int (nI (j + 1))), (5, .int (nI (by2 f (fa + 8 + 2 * j)))), (0, .ref o), (1, .int (nI (fa + 8))), (2, .int (nI i)), (3, .int (nI (by2 f (fa + 8 + 2 * i))))], [], M1) _
            refine ps_st (S' := (66, [(0, .ref o), (1, .int (nI (fa + 8))), (2, .int (nI i)), (3, .int (nI (by2 f (fa + 8 + 2 * i)))), (4, .int (nI (j + 1)))], [], M1)) rfl rfl rfl ?_
            exact ih.2 (i) (j + 1) M1 hl_o hl_c hl_b hl_da hl_vd hV1 hF1 (hi) (by omega) (hs) (hp) (by
                rw [← hd, dupN_st (j := j) (by omega), if_pos (by omega)])
          · have c_111 : ¬ ((nI (smN f n E (fi f E (by2 f (fa + 8 + 2 * j))) (fi f E (by2 f (fa + 8 + 2 * i))))) = 0) := of_decide_eq_false c_111
            have n_111 : ¬ (smN f n E (fi f E (by2 f (fa + 8 + 2 * j))) (fi f E (by2 f (fa + 8 + 2 * i))) = 0) := fun h9 => c_111 ((eq_nI (p := smN f n E (fi f E (by2 f (fa + 8 + 2 * j))) (fi f E (by2 f (fa + 8 + 2 * i)))) (n := 0) (Nat.lt_trans (le1_sm _ _ _ _ _) (by decide)) (by decide)).mpr h9)
            refine ps_st (S' := (115, [(5, .int (nI (by2 f (fa + 8 + 2 * j)))), (0, .ref o), (1, .int (nI (fa + 8))), (2, .int (nI i)), (3, .int (nI (by2 f (fa + 8 + 2 * i)))), (4, .int (nI j))], [.ref o], M1)) rfl rfl rfl ?_
            refine ps_get (S' := (118, [(5, .int (nI (by2 f (fa + 8 + 2 * j)))), (0, .ref o), (1, .int (nI (fa + 8))), (2, .int (nI i)), (3, .int (nI (by2 f (fa + 8 + 2 * i)))), (4, .int (nI j))], [.ref vd], M1)) rfl hl_o rfl rfl ?_
            refine ps_st (S' := (120, [(5, .int (nI (by2 f (fa + 8 + 2 * j)))), (0, .ref o), (1, .int (nI (fa + 8))), (2, .int (nI i)), (3, .int (nI (by2 f (fa + 8 + 2 * i)))), (4, .int (nI j))], [.int 18, .ref vd], M1)) rfl rfl rfl ?_
            refine ps_st (S' := (121, [(5, .int (nI (by2 f (fa + 8 + 2 * j)))), (0, .ref o), (1, .int (nI (fa + 8))), (2, .int (nI i)), (3, .int (nI (by2 f (fa + 8 + 2 * i)))), (4, .int (nI j))], [.int (nI (fa + 8)), .int 18, .ref vd], M1)) rfl rfl rfl ?_
            refine ps_st (S' := (122, [(5, .int (nI (by2 f (fa + 8 + 2 * j)))), (0, .ref o), (1, .int (nI (fa + 8))), (2, .int (nI i)), (3, .int (nI (by2 f (fa + 8 + 2 * i)))), (4, .int (nI j))], [.int 2, .int (nI (fa + 8)), .int 18, .ref vd], M1)) rfl rfl rfl ?_
            refine ps_st (S' := (123, [(5, .int (nI (by2 f (fa + 8 + 2 * j)))), (0, .ref o), (1, .int (nI (fa + 8))), (2, .int (nI i)), (3, .int (nI (by2 f (fa + 8 + 2 * i)))), (4, .int (nI j))], [.int (nI i), .int 2, .int (nI (fa + 8)), .int 18, .ref vd], M1)) rfl rfl rfl ?_
            refine ps_st (S' := (124, [(5, .int (nI (by2 f (fa + 8 + 2 * j)))), (0, .ref o), (1, .int (nI (fa + 8))), (2, .int (nI i)), (3, .int (nI (by2 f (fa + 8 + 2 * i)))), (4, .int (nI j))], [.int (2 * (nI i)), .int (nI (fa + 8)), .int 18, .ref vd], M1)) rfl rfl rfl ?_
            rw [nI_mul1 (p := 2) (k := i) (x := 2) (y := (nI i)) rfl rfl (by omega)]
            show pl _ _ _ (_, [(5, .int (nI (by2 f (fa + 8 + 2 * j)))), (0, .ref o), (1, .int (nI (fa + 8))), (2, .int (nI i)), (3, .int (nI (by2 f (fa + 8 + 2 * i)))), (4, .int (nI j))], [.int (nI (2 * i)), .int (nI (fa + 8)), .int 18, .ref vd], M1) _
            refine ps_st (S' := (125, [(5, .int (nI (by2 f (fa + 8 + 2 * j)))), (0, .ref o), (1, .int (nI (fa + 8))), (2, .int (nI i)), (3, .int (nI (by2 f (fa + 8 + 2 * i)))), (4, .int (nI j))], [.int ((nI (fa + 8)) + (nI (2 * i))), .int 18, .ref vd], M1)) rfl rfl rfl ?_
            rw [nI_add1 (p := fa + 8) (k := 2 * i) (x := (nI (2 * i))) rfl (by omega)]
            show pl _ _ _ (_, [(5, .int (nI (by2 f (fa + 8 + 2 * j)))), (0, .ref o), (1, .int (nI (fa + 8))), (2, .int (nI i)), (3, .int (nI (by2 f (fa + 8 + 2 * i)))), (4, .int (nI j))], [.int (nI (fa + 8 + 2 * i)), .int 18, .ref vd], M1) _
            refine pl_call (a := [.ref vd, .int 18, .int (nI (fa + 8 + 2 * i))]) (rest := []) rfl rfl rfl (dk_wrong (vd := vd) (ru := ru) (wa := wa) (x1 := 18) (x2 := (nI (fa + 8 + 2 * i))) hl_vd) (fun v31 M32 q33 => ?_)
            obtain ⟨rfl, h34, f35⟩ := q33
            have h37 := (f35.1 o (nin1 (ob_ne hl_o hl_vd (by decide)))).trans hl_o
            have h38 := (f35.1 c (nin1 (ob_ne hl_c hl_vd (by decide)))).trans hl_c
            have h39 := (f35.1 b (nin1 (ob_ne hl_b hl_vd (by decide)))).trans hl_b
            have h40 := (f35.1 da (nin1 (Ne.symm (ob_ar hl_vd hl_da)))).trans hl_da
            have hF41 := hF1.tr f35 (by simp)
            have hV42 := hV1.keep f35.gm (n7c hl_vd (by decide) (n7nil))
            show pl _ _ _ (128, [(5, .int (nI (by2 f (fa + 8 + 2 * j)))), (0, .ref o), (1, .int (nI (fa + 8))), (2, .int (nI i)), (3, .int (nI (by2 f (fa + 8 + 2 * i)))), (4, .int (nI j))], [.int 0], M32) _
            exact ps_ret rfl rfl (Or.inr ⟨(18, fa + 8 + 2 * i), by
                rw [← hs, ifS_st (i := i) (by omega), if_neg (by omega), if_pos (by rw [← hd, dupN_st (j := j) (by omega), if_neg (by omega)]; decide)], rfl, h34, hF41⟩)
  refine ps_st (S' := (1, [(0, .ref o)], [.ref o], M)) rfl rfl rfl ?_
  refine ps_get (S' := (4, [(0, .ref o)], [.ref c], M)) rfl h_o rfl rfl ?_
  refine ps_get (S' := (7, [(0, .ref o)], [.int (nI fa)], M)) rfl h_c rfl rfl ?_
  refine ps_st (S' := (9, [(0, .ref o)], [.int 8, .int (nI fa)], M)) rfl rfl rfl ?_
  refine ps_st (S' := (10, [(0, .ref o)], [.int ((nI fa) + 8)], M)) rfl rfl rfl ?_
  rw [nI_add1 (p := fa) (k := 8) (x := 8) rfl (by omega)]
  show pl _ _ _ (_, [(0, .ref o)], [.int (nI (fa + 8))], M) _
  refine ps_st (S' := (11, [(1, .int (nI (fa + 8))), (0, .ref o)], [], M)) rfl rfl rfl ?_
  refine ps_st (S' := (12, [(1, .int (nI (fa + 8))), (0, .ref o)], [.int 0], M)) rfl rfl rfl ?_
  refine ps_st (S' := (13, [(0, .ref o), (1, .int (nI (fa + 8))), (2, .int 0)], [], M)) rfl rfl rfl ?_
  exact (LL kf).1 (0) M h_o h_c h_b h_da h_vd hV hF (by omega) (rfl)
set_option maxHeartbeats 1000000 in
theorem dk_fieldFlagsHold {g : xe_G} {M : mi_H} {f : Nat → Int32} {n N q : Nat} {E : List (Nat × Nat)} {o c b da vd ac fr mr fa ic mj na pa : Nat} {mi ru wa k1 k2 k3 k4 k5 k6 k7 : Int32} {x : Nat} (h_o : M.1 o = some (ob 2 [.ref c, .ref b, .ref q, .ref vd, .ref ac])) (h_c : M.1 c = some (ob 3 [.ref b, .ref q, .int mi, .int (nI mj), .int (nI fa), .int (nI ic), .ref fr, .ref mr, .int (nI na), .int (nI pa), .int k1, .int k2, .int k3, .int k4, .int k5, .int k6, .int k7])) (h_b : M.1 b = some (ob 1 [.ref da])) (h_da : M.1 da = some (ar .byte n f)) (hn : n ≤ 65540) (hmj : mj < 65536) (hfa : fa + 8 ≤ n) (hx : x < 65536) : pt (mT g) 55 [.ref o, .int (nI x)] M (fun v M' => (v = some (.int (nI (fflN (by2 f fa) x))) ∧ M = M')) := by
  refine pt_in (b := mb_55 g) rfl (fun kf => ?_)
  show pl (mT g) kf (mb_55 g).2 (0, [(0, .ref o), (1, .int (nI x))], [], M) _
  have ha_x : ∀ m, aN x m < 65536 := fun m => Nat.lt_of_le_of_lt Nat.and_le_left hx
  refine ps_st (S' := (1, [(0, .ref o), (1, .int (nI x))], [.ref o], M)) rfl rfl rfl ?_
  refine ps_get (S' := (4, [(0, .ref o), (1, .int (nI x))], [.ref c], M)) rfl h_o rfl rfl ?_
  refine ps_st (S' := (7, [(0, .ref o), (1, .int (nI x))], [.int 512, .ref c], M)) rfl rfl rfl ?_
  refine pl_call (a := [.ref c, .int 512]) (rest := []) rfl rfl rfl (dk_fhas (f := f) (n := n) (q := q) (c := c) (b := b) (da := da) (fr := fr) (mr := mr) (fa := fa) (ic := ic) (mj := mj) (na := na) (pa := pa) (mi := mi) (k1 := k1) (k2 := k2) (k3 := k3) (k4 := k4) (k5 := k5) (k6 := k6) (k7 := k7) (x := 512) h_c h_b h_da (hn) (hfa)) (fun v1 M2 q3 => ?_)
  obtain ⟨rfl, rfl⟩ := q3
  show pl _ _ _ (10, [(0, .ref o), (1, .int (nI x))], [.int (nI (hasN (by2 f fa) 512))], M) _
  refine ps_if (S1 := (31, [(0, .ref o), (1, .int (nI x))], [], M)) (S2 := (13, [(0, .ref o), (1, .int (nI x))], [], M)) rfl rfl rfl (fun c_10 => ?_) (fun c_10 => ?_)
  · have c_10 : (nI (hasN (by2 f fa) 512)) = 0 := of_decide_eq_true c_10
    have n_10 : hasN (by2 f fa) 512 = 0 := (eq_nI (p := hasN (by2 f fa) 512) (n := 0) (Nat.lt_trans (le1_has _ _) (by decide)) (by decide)).mp c_10
    refine ps_st (S' := (32, [(0, .ref o), (1, .int (nI x))], [.int (nI x)], M)) rfl rfl rfl ?_
    refine pl_call (a := [.int (nI x)]) (rest := []) rfl rfl rfl (dk_hasOneAccessAtMost (x := x) (by omega)) (fun v4 M5 q6 => ?_)
    obtain ⟨rfl, rfl⟩ := q6
    show pl _ _ _ (35, [(0, .ref o), (1, .int (nI x))], [.int (nI (oneN x))], M) _
    refine ps_if (S1 := (51, [], [], M)) (S2 := (38, [(0, .ref o), (1, .int (nI x))], [], M)) rfl rfl rfl (fun c_35 => ?_) (fun c_35 => ?_)
    · have c_35 : (nI (oneN x)) = 0 := of_decide_eq_true c_35
      have n_35 : oneN x = 0 := (eq_nI (p := oneN x) (n := 0) (Nat.lt_trans (le1_one _) (by decide)) (by decide)).mp c_35
      refine ps_st (S' := (52, [], [.int 0], M)) rfl rfl rfl ?_
      exact ps_ret rfl rfl (⟨congrArg (fun x => some (Value.int (nI x))) (show 0 = fflN (by2 f fa) x from by
          unfold fflN
          first | ((repeat first | rw [if_pos (by omega)] | rw [if_neg (by omega)]) <;> first | rfl | omega) | ((repeat' split) <;> first | rfl | (exfalso; omega) | omega)), rfl⟩)
    · have c_35 : ¬ ((nI (oneN x)) = 0) := of_decide_eq_false c_35
      have n_35 : ¬ (oneN x = 0) := fun h9 => c_35 ((eq_nI (p := oneN x) (n := 0) (Nat.lt_trans (le1_one _) (by decide)) (by decide)).mpr h9)
      refine ps_st (S' := (39, [(0, .ref o), (1, .int (nI x))], [.int (nI x)], M)) rfl rfl rfl ?_
      refine ps_st (S' := (41, [(0, .ref o), (1, .int (nI x))], [.int 80, .int (nI x)], M)) rfl rfl rfl ?_
      refine pl_call (a := [.int (nI x), .int 80]) (rest := []) rfl rfl rfl (dk_hasAll (x := x) (w := 80) (by omega) (by decide)) (fun v7 M8 q9 => ?_)
      obtain ⟨rfl, rfl⟩ := q9
      show pl _ _ _ (44, [(0, .ref o), (1, .int (nI x))], [.int (nI (hallN x 80))], M) _
      refine ps_if (S1 := (51, [], [], M)) (S2 := (47, [(0, .ref o), (1, .int (nI x))], [], M)) rfl rfl rfl (fun c_44 => ?_) (fun c_44 => ?_)
      · have c_44 : ¬ (nI (hallN x 80)) = 0 := of_decide_eq_true c_44
        have n_44 : ¬ (hallN x 80 = 0) := fun h9 => c_44 ((eq_nI (p := hallN x 80) (n := 0) (Nat.lt_trans (le1_hall _ _) (by decide)) (by decide)).mpr h9)
        refine ps_st (S' := (52, [], [.int 0], M)) rfl rfl rfl ?_
        exact ps_ret rfl rfl (⟨congrArg (fun x => some (Value.int (nI x))) (show 0 = fflN (by2 f fa) x from by
            unfold fflN
            first | ((repeat first | rw [if_pos (by omega)] | rw [if_neg (by omega)]) <;> first | rfl | omega) | ((repeat' split) <;> first | rfl | (exfalso; omega) | omega)), rfl⟩)
      · have c_44 : ¬ (¬ (nI (hallN x 80)) = 0) := of_decide_eq_false c_44
        have n_44 : hallN x 80 = 0 := (eq_nI (p := hallN x 80) (n := 0) (Nat.lt_trans (le1_hall _ _) (by decide)) (by decide)).mp (Decidable.not_not.mp c_44)
        refine ps_st (S' := (48, [(0, .ref o), (1, .int (nI x))], [.int 1], M)) rfl rfl rfl ?_
        refine ps_st (S' := (52, [], [.int 1], M)) rfl rfl rfl ?_
        exact ps_ret rfl rfl (⟨congrArg (fun x => some (Value.int (nI x))) (show 1 = fflN (by2 f fa) x from by
            unfold fflN
            first | ((repeat first | rw [if_pos (by omega)] | rw [if_neg (by omega)]) <;> first | rfl | omega) | ((repeat' split) <;> first | rfl | (exfalso; omega) | omega)), rfl⟩)
  · have c_10 : ¬ ((nI (hasN (by2 f fa) 512)) = 0) := of_decide_eq_false c_10
    have n_10 : ¬ (hasN (by2 f fa) 512 = 0) := fun h9 => c_10 ((eq_nI (p := hasN (by2 f fa) 512) (n := 0) (Nat.lt_trans (le1_has _ _) (by decide)) (by decide)).mpr h9)
    refine ps_st (S' := (16, [(0, .ref o), (1, .int (nI x))], [.int 16607], M)) rfl rfl rfl ?_
    refine ps_st (S' := (17, [(2, .int 16607), (0, .ref o), (1, .int (nI x))], [], M)) rfl rfl rfl ?_
    refine ps_st (S' := (18, [(2, .int 16607), (0, .ref o), (1, .int (nI x))], [.int (nI x)], M)) rfl rfl rfl ?_
    refine ps_st (S' := (19, [(2, .int 16607), (0, .ref o), (1, .int (nI x))], [.int 16607, .int (nI x)], M)) rfl rfl rfl ?_
    refine ps_st (S' := (20, [(2, .int 16607), (0, .ref o), (1, .int (nI x))], [.int ((nI x) &&& 16607)], M)) rfl rfl rfl ?_
    rw [nI_an (p := x) (k := 16607) (x := 16607) rfl]
    show pl _ _ _ (_, [(2, .int 16607), (0, .ref o), (1, .int (nI x))], [.int (nI (aN x 16607))], M) _
    refine ps_st (S' := (22, [(2, .int 16607), (0, .ref o), (1, .int (nI x))], [.int 25, .int (nI (aN x 16607))], M)) rfl rfl rfl ?_
    refine ps_if2 (S1 := (29, [(2, .int 16607), (0, .ref o), (1, .int (nI x))], [], M)) (S2 := (25, [(2, .int 16607), (0, .ref o), (1, .int (nI x))], [], M)) rfl rfl rfl (fun c_22 => ?_) (fun c_22 => ?_)
    · have c_22 : ¬ (nI (aN x 16607)) = 25 := of_decide_eq_true c_22
      have n_22 : ¬ (aN x 16607 = 25) := fun h9 => c_22 ((eq_nI (p := aN x 16607) (n := 25) (Nat.lt_trans (ha_x _) (by decide)) (by decide)).mpr h9)
      refine ps_st (S' := (30, [], [.int 0], M)) rfl rfl rfl ?_
      exact ps_ret rfl rfl (⟨congrArg (fun x => some (Value.int (nI x))) (show 0 = fflN (by2 f fa) x from by
          unfold fflN
          first | ((repeat first | rw [if_pos (by omega)] | rw [if_neg (by omega)]) <;> first | rfl | omega) | ((repeat' split) <;> first | rfl | (exfalso; omega) | omega)), rfl⟩)
    · have c_22 : ¬ (¬ (nI (aN x 16607)) = 25) := of_decide_eq_false c_22
      have n_22 : aN x 16607 = 25 := (eq_nI (p := aN x 16607) (n := 25) (Nat.lt_trans (ha_x _) (by decide)) (by decide)).mp (Decidable.not_not.mp c_22)
      refine ps_st (S' := (26, [(2, .int 16607), (0, .ref o), (1, .int (nI x))], [.int 1], M)) rfl rfl rfl ?_
      refine ps_st (S' := (30, [], [.int 1], M)) rfl rfl rfl ?_
      exact ps_ret rfl rfl (⟨congrArg (fun x => some (Value.int (nI x))) (show 1 = fflN (by2 f fa) x from by
          unfold fflN
          first | ((repeat first | rw [if_pos (by omega)] | rw [if_neg (by omega)]) <;> first | rfl | omega) | ((repeat' split) <;> first | rfl | (exfalso; omega) | omega)), rfl⟩)
end
