/-! the reference reads: bytes, items, attributes, members (laid by wip/p4/e1.py) -/

theorem s_atts_st {f : Nat → Int32} {n c i p : Nat} (h : i < c) : s_atts f n (c - i) p = if n < p + 2 then .inl (1, p) else if n < p + 6 then .inl (1, p + 2) else if n < p + 6 + by4 f (p + 2) then .inl (1, p + 6) else s_atts f n (c - (i + 1)) (p + 6 + by4 f (p + 2)) := by
  rw [show c - i = (c - (i + 1)) + 1 by omega]
  rfl
theorem s_mems_bad {f : Nat → Int32} {n c i j p : Nat} (h : i < c) (hj : j < 3) (h1 : p + 2 * j ≤ n) (h2 : n < p + 2 * j + 2) : s_mems f n (c - i) p = .inl (1, p + 2 * j) := by
  rw [s_mems_st h]
  have h3 : j = 0 ∨ j = 1 ∨ j = 2 := by omega
  rcases h3 with rfl | rfl | rfl
  · rw [if_pos (by omega)]
    rfl
  · rw [if_neg (by omega), if_pos (by omega)]
  · rw [if_neg (by omega), if_neg (by omega), if_pos (by omega)]
theorem s_two_st {n c i p : Nat} (h : i < c) : s_two n (c - i) p = if n < p + 2 then .inl (1, p) else s_two n (c - (i + 1)) (p + 2) := by
  rw [show c - i = (c - (i + 1)) + 1 by omega]
  rfl
theorem s_class_bad {f : Nat → Int32} {n j p : Nat} (hj : j < 4) (h1 : p + 2 * j ≤ n) (h2 : n < p + 2 * j + 2) : s_class f n p = .inl (1, p + 2 * j) := by
  unfold s_class
  have h3 : j = 0 ∨ j = 1 ∨ j = 2 ∨ j = 3 := by omega
  rcases h3 with rfl | rfl | rfl | rfl
  · rw [if_pos (by omega)]
    rfl
  · rw [if_neg (by omega), if_pos (by omega)]
  · rw [if_neg (by omega), if_neg (by omega), if_pos (by omega)]
  · rw [if_neg (by omega), if_neg (by omega), if_neg (by omega), if_pos (by omega)]
theorem rd_u1 {g : xe_G} {m0 : Nat} {q : Nat → Nat} {z : Nat × Nat} {I : rI} {R : rR} {M : mi_H} {n : Nat} {f : Nat → Int32} {p : Nat} (hR : RS g m0 q z I R M)  (hF : FK n f I R) (hin : p + 1 ≤ n) : pt (mT g) 248 [.ref m0, .int (nI p)] M (fun v M' => (v = some (.int (nI (by1 f p))) ∧ M = M')) := by
  have hn := hF.1
  refine (rm_u1 hR hF (x1 := nI p) (by rw [nI_val (by omega)]; omega) (by rw [nI_val (by omega)]; omega) (d := 3) (by decide)).pt.mono (fun v M' h => ⟨?_, h.2.symm⟩)
  rw [h.1, f1_nI (by omega)]
theorem rd_u2 {g : xe_G} {m0 : Nat} {q : Nat → Nat} {z : Nat × Nat} {I : rI} {R : rR} {M : mi_H} {n : Nat} {f : Nat → Int32} {p : Nat} (hR : RS g m0 q z I R M)  (hF : FK n f I R) (hin : p + 2 ≤ n) : pt (mT g) 249 [.ref m0, .int (nI p)] M (fun v M' => (v = some (.int (nI (by2 f p))) ∧ M = M')) := by
  have hn := hF.1
  refine (rm_u2 hR hF (x1 := nI p) (by rw [nI_val (by omega)]; omega) (by rw [nI_val (by omega)]; omega) (d := 3) (by decide)).pt.mono (fun v M' h => ⟨?_, h.2.symm⟩)
  rw [h.1, f2_nI (by omega)]
theorem rd_u4 {g : xe_G} {m0 : Nat} {q : Nat → Nat} {z : Nat × Nat} {I : rI} {R : rR} {M : mi_H} {n : Nat} {f : Nat → Int32} {p : Nat} (hR : RS g m0 q z I R M)  (hF : FK n f I R) (hin : p + 4 ≤ n) : pt (mT g) 250 [.ref m0, .int (nI p)] M (fun v M' => (v = some (.long (nL (by4 f p))) ∧ M = M')) := by
  have hn := hF.1
  refine (rm_u4 hR hF (x1 := nI p) (by rw [nI_val (by omega)]; omega) (by rw [nI_val (by omega)]; omega) (d := 3) (by decide)).pt.mono (fun v M' h => ⟨?_, h.2.symm⟩)
  rw [h.1, f4_nL (by omega)]
set_option maxHeartbeats 1000000 in
theorem rd_wrong {g : xe_G} {m0 : Nat} {q : Nat → Nat} {z : Nat × Nat} {I : rI} {R : rR} {M : mi_H} {x1 x2 : Int32} (hR : RS g m0 q z I R M)    : pt (mT g) 256 [.ref m0, .int x1, .int x2] M (fun v M' => (∃  (I' : rI) (R' : rR), v = some (.int 0) ∧ RS g m0 q z I' R' M' ∧ eqI [47, 48] I I' ∧ eqR [] R R' ∧ I' 47 = some x1 ∧ I' 48 = some x2)) := by
  refine pt_in (b := mb_256 g) rfl (fun kf => ?_)
  show pl (mT g) kf (mb_256 g).2 (0, [(0, .ref m0), (1, .int x1), (2, .int x2)], [], M) _
  have hEI : eqI [47, 48] I I := eqI.rf
  have hER : eqR [] R R := eqR.rf
  refine ps_st (S' := (1, [(0, .ref m0), (1, .int x1), (2, .int x2)], [.ref m0], M)) rfl rfl rfl ?_
  refine ps_st (S' := (2, [(0, .ref m0), (1, .int x1), (2, .int x2)], [.int x1, .ref m0], M)) rfl rfl rfl ?_
  refine pr_put (j := 47) rfl hR rfl (fun M1 I2 hR3 hi4 hI5 => ?_)
  have hEI6 := hEI.put hI5 (by decide)
  show pl _ _ _ (5, [(0, .ref m0), (1, .int x1), (2, .int x2)], [], M1) _
  refine ps_st (S' := (6, [(0, .ref m0), (1, .int x1), (2, .int x2)], [.ref m0], M1)) rfl rfl rfl ?_
  refine ps_st (S' := (7, [(0, .ref m0), (1, .int x1), (2, .int x2)], [.int x2, .ref m0], M1)) rfl rfl rfl ?_
  refine pr_put (j := 48) rfl hR3 rfl (fun M7 I8 hR9 hi10 hI11 => ?_)
  have hi12 := (hI11 47 (by decide)).trans hi4
  have hEI13 := hEI6.put hI11 (by decide)
  show pl _ _ _ (10, [(0, .ref m0), (1, .int x1), (2, .int x2)], [], M7) _
  refine ps_st (S' := (11, [(0, .ref m0), (1, .int x1), (2, .int x2)], [.int 0], M7)) rfl rfl rfl ?_
  exact ps_ret rfl rfl (⟨I8, R, rfl, hR9, hEI13, hER, hi12, hi10⟩)
set_option maxHeartbeats 1000000 in
theorem rd_item {g : xe_G} {m0 : Nat} {q : Nat → Nat} {z : Nat × Nat} {I : rI} {R : rR} {M : mi_H} {n : Nat} {f : Nat → Int32} {p k : Nat} (hR : RS g m0 q z I R M) (hi50 : I 50 = some (nI p)) (hF : FK n f I R) (hp : p ≤ n) (hk : k < 8589934592) : pt (mT g) 219 [.ref m0, .long (nL k)] M (fun v M' => (∃  (I' : rI) (R' : rR), (p + k ≤ n) ∧ v = some (.int 1) ∧ RS g m0 q z I' R' M' ∧ eqI [47, 48] I I' ∧ eqR [] R R') ∨ (∃  (I' : rI) (R' : rR), (n < p + k) ∧ v = some (.int 0) ∧ RS g m0 q z I' R' M' ∧ eqI [47, 48] I I' ∧ eqR [] R R' ∧ I' 47 = some 1 ∧ I' 48 = some (nI p))) := by
  refine pt_in (b := mb_219 g) rfl (fun kf => ?_)
  show pl (mT g) kf (mb_219 g).2 (0, [(0, .ref m0), (1, .long (nL k))], [], M) _
  have hEI : eqI [47, 48] I I := eqI.rf
  have hER : eqR [] R R := eqR.rf
  have hn := hF.1
  refine ps_st (S' := (1, [(0, .ref m0), (1, .long (nL k))], [.ref m0], M)) rfl rfl rfl ?_
  refine pr_int (j := 50) (S' := (4, [(0, .ref m0), (1, .long (nL k))], [.int (nI p)], M)) rfl hR rfl hi50 rfl ?_
  refine ps_st (S' := (5, [(0, .ref m0), (1, .long (nL k))], [.long (Int32.toInt64 (nI p))], M)) rfl rfl rfl ?_
  rw [i2l_nL (p := p) (by omega)]
  show pl _ _ _ (_, [(0, .ref m0), (1, .long (nL k))], [.long (nL p)], M) _
  refine ps_st (S' := (6, [(0, .ref m0), (1, .long (nL k))], [.long (nL k), .long (nL p)], M)) rfl rfl rfl ?_
  refine ps_st (S' := (7, [(0, .ref m0), (1, .long (nL k))], [.long ((nL p) + (nL k))], M)) rfl rfl rfl ?_
  rw [nL_add (p := p) (k := k) (x := (nL k)) rfl (by omega)]
  show pl _ _ _ (_, [(0, .ref m0), (1, .long (nL k))], [.long (nL (p + k))], M) _
  refine ps_st (S' := (8, [(0, .ref m0), (1, .long (nL k))], [.ref m0, .long (nL (p + k))], M)) rfl rfl rfl ?_
  refine pr_int (j := 16) (S' := (11, [(0, .ref m0), (1, .long (nL k))], [.int (nI n), .long (nL (p + k))], M)) rfl hR rfl hF.2.2.1 rfl ?_
  refine ps_st (S' := (12, [(0, .ref m0), (1, .long (nL k))], [.long (Int32.toInt64 (nI n)), .long (nL (p + k))], M)) rfl rfl rfl ?_
  rw [i2l_nL (p := n) (by omega)]
  show pl _ _ _ (_, [(0, .ref m0), (1, .long (nL k))], [.long (nL n), .long (nL (p + k))], M) _
  refine ps_st (S' := (13, [(0, .ref m0), (1, .long (nL k))], [.int (lg_cmp (nL (p + k)) (nL n))], M)) rfl rfl rfl ?_
  refine ps_if (S1 := (28, [], [], M)) (S2 := (16, [(0, .ref m0), (1, .long (nL k))], [], M)) rfl rfl rfl (fun c_13 => ?_) (fun c_13 => ?_)
  · have n_13 : p + k ≤ n := (cL_le (p := p + k) (k := n) (x := (nL (p + k))) (y := (nL n)) rfl rfl (by omega) (by omega)).mp (of_decide_eq_true c_13)
    refine ps_st (S' := (29, [], [.int 1], M)) rfl rfl rfl ?_
    refine ps_st (S' := (33, [], [.int 1], M)) rfl rfl rfl ?_
    exact ps_ret rfl rfl (Or.inl ⟨I, R, by omega, rfl, hR, hEI, hER⟩)
  · have n_13 : ¬ (p + k ≤ n) := fun h9 => of_decide_eq_false c_13 ((cL_le (p := p + k) (k := n) (x := (nL (p + k))) (y := (nL n)) rfl rfl (by omega) (by omega)).mpr h9)
    refine ps_st (S' := (17, [(0, .ref m0), (1, .long (nL k))], [.ref m0], M)) rfl rfl rfl ?_
    refine ps_st (S' := (18, [(0, .ref m0), (1, .long (nL k))], [.int 1, .ref m0], M)) rfl rfl rfl ?_
    refine ps_st (S' := (19, [(0, .ref m0), (1, .long (nL k))], [.ref m0, .int 1, .ref m0], M)) rfl rfl rfl ?_
    refine pr_int (j := 50) (S' := (22, [(0, .ref m0), (1, .long (nL k))], [.int (nI p), .int 1, .ref m0], M)) rfl hR rfl hi50 rfl ?_
    refine pl_call (a := [.ref m0, .int 1, .int (nI p)]) (rest := []) rfl rfl rfl (rd_wrong (x1 := 1) (x2 := (nI p)) hR) (fun v1 M2 q3 => ?_)
    obtain ⟨I4, R5, rfl, hR6, hI7, hX8, hi9, hi10⟩ := q3
    have hi11 := (hI7 50 (by decide)).trans hi50
    have hi12 := (hI7 16 (by decide)).trans hF.2.2.1
    have hF_13 := hF.mono (cIx hI7 (by decide)) (cRx hX8 (by decide))
    have hEI14 := hEI.tr hI7 (by decide)
    have hER15 := hER.tr hX8 (by decide)
    show pl _ _ _ (25, [(0, .ref m0), (1, .long (nL k))], [.int 0], M2) _
    refine ps_if (S1 := (32, [(0, .ref m0), (1, .long (nL k))], [], M2)) (S2 := (28, [], [], M2)) rfl rfl rfl (fun c_25 => ?_) (fun c_25 => ?_)
    rotate_left
    · exact absurd (by decide) (of_decide_eq_false c_25)
    refine ps_st (S' := (33, [], [.int 0], M2)) rfl rfl rfl ?_
    exact ps_ret rfl rfl (Or.inr ⟨I4, R5, by omega, rfl, hR6, hEI14, hER15, hi9, hi10⟩)
set_option maxHeartbeats 1000000 in
theorem rd_attributes {g : xe_G} {m0 : Nat} {q : Nat → Nat} {z : Nat × Nat} {I : rI} {R : rR} {M : mi_H} {n : Nat} {f : Nat → Int32} {p : Nat} (hR : RS g m0 q z I R M) (hi50 : I 50 = some (nI p)) (hF : FK n f I R) (hp : p ≤ n) : pt (mT g) 178 [.ref m0] M (fun v M' => (∃ (p' : Nat) (I' : rI) (R' : rR), (s_attributes f n p = .inr p') ∧ v = some (.int 1) ∧ RS g m0 q z I' R' M' ∧ eqI [47, 48, 50] I I' ∧ eqR [] R R' ∧ I' 50 = some (nI p')) ∨ (∃ (e : Nat × Nat) (I' : rI) (R' : rR), (s_attributes f n p = .inl e) ∧ v = some (.int 0) ∧ RS g m0 q z I' R' M' ∧ eqI [47, 48, 50] I I' ∧ eqR [] R R' ∧ I' 47 = some (nI e.1) ∧ I' 48 = some (nI e.2))) := by
  refine pt_in (b := mb_178 g) rfl (fun kf => ?_)
  show pl (mT g) kf (mb_178 g).2 (0, [(0, .ref m0)], [], M) _
  have hEI : eqI [47, 48, 50] I I := eqI.rf
  have hER : eqR [] R R := eqR.rf
  have hn := hF.1
  have LL : ∀ (kf : Nat), (∀ (i p1 : Nat) (M1 : mi_H) (I1 : rI) (R1 : rR), (RS g m0 q z I1 R1 M1) → (eqI [47, 48, 50] I I1) → (eqR [] R R1) → (I1 50 = some (nI p1)) → (FK n f I1 R1) → (i ≤ by2 f p) → (p1 ≤ n) → (s_atts f n (by2 f p - i) p1 = s_attributes f n p) →  pl (mT g) kf (mb_178 g).2 (33, [(0, .ref m0), (1, .int (nI (by2 f p))), (2, .int (nI i))], [], M1) (fun v M' => (∃ (p' : Nat) (I' : rI) (R' : rR), (s_attributes f n p = .inr p') ∧ v = some (.int 1) ∧ RS g m0 q z I' R' M' ∧ eqI [47, 48, 50] I I' ∧ eqR [] R R' ∧ I' 50 = some (nI p')) ∨ (∃ (e : Nat × Nat) (I' : rI) (R' : rR), (s_attributes f n p = .inl e) ∧ v = some (.int 0) ∧ RS g m0 q z I' R' M' ∧ eqI [47, 48, 50] I I' ∧ eqR [] R R' ∧ I' 47 = some (nI e.1) ∧ I' 48 = some (nI e.2)))) := by
    intro kf
    induction kf with
    | zero => exact (by intros; exact pl_0)
    | succ kf ih =>
      intro i p1 M1 I1 R1 hR1 hEI1 hER1 hl50 hF1 hi hp1 hs
      have hu9 := by2_lt f p
      refine ps_st1 (S' := (34, [(0, .ref m0), (1, .int (nI (by2 f p))), (2, .int (nI i))], [.int (nI i)], M1)) rfl rfl rfl ?_
      refine ps_st (S' := (35, [(0, .ref m0), (1, .int (nI (by2 f p))), (2, .int (nI i))], [.int (nI (by2 f p)), .int (nI i)], M1)) rfl rfl rfl ?_
      refine ps_if2 (S1 := (118, [(0, .ref m0), (1, .int (nI (by2 f p))), (2, .int (nI i))], [], M1)) (S2 := (38, [(0, .ref m0), (1, .int (nI (by2 f p))), (2, .int (nI i))], [], M1)) rfl rfl rfl (fun c_35 => ?_) (fun c_35 => ?_)
      · have c_35 : (nI (by2 f p)) ≤ (nI i) := of_decide_eq_true c_35
        have n_35 : by2 f p ≤ i := (le_nI (p := by2 f p) (n := i) (Nat.lt_trans (by2_lt _ _) (by decide)) (by omega)).mp c_35
        refine ps_st (S' := (119, [(0, .ref m0), (1, .int (nI (by2 f p))), (2, .int (nI i))], [.int 1], M1)) rfl rfl rfl ?_
        exact ps_ret rfl rfl (Or.inl ⟨p1, I1, R1, by rw [← hs, show by2 f p - i = 0 by omega]; rfl, rfl, hR1, hEI1, hER1, hl50⟩)
      · have c_35 : ¬ ((nI (by2 f p)) ≤ (nI i)) := of_decide_eq_false c_35
        have n_35 : ¬ (by2 f p ≤ i) := fun h9 => c_35 ((le_nI (p := by2 f p) (n := i) (Nat.lt_trans (by2_lt _ _) (by decide)) (by omega)).mpr h9)
        refine ps_st (S' := (39, [(0, .ref m0), (1, .int (nI (by2 f p))), (2, .int (nI i))], [.ref m0], M1)) rfl rfl rfl ?_
        refine ps_st (S' := (42, [(0, .ref m0), (1, .int (nI (by2 f p))), (2, .int (nI i))], [.long 2, .ref m0], M1)) rfl rfl rfl ?_
        refine pl_call (a := [.ref m0, .long 2]) (rest := []) rfl rfl rfl (rd_item (n := n) (f := f) (p := p1) (k := 2) hR1 hl50 hF1 (by omega) (by decide)) (fun v1 M2 q3 => ?_)
        rcases q3 with q3 | q3
        · skip
          obtain ⟨I4, R5, q42_s, rfl, hR6, hI7, hX8⟩ := q3
          have hi9 := (hI7 50 (by decide)).trans hl50
          have hF_10 := hF1.mono (cIx hI7 (by decide)) (cRx hX8 (by decide))
          have hEI11 := hEI1.tr hI7 (by decide)
          have hER12 := hER1.tr hX8 (by decide)
          show pl _ _ _ (45, [(0, .ref m0), (1, .int (nI (by2 f p))), (2, .int (nI i))], [.int 1], M2) _
          refine ps_if (S1 := (50, [(0, .ref m0), (1, .int (nI (by2 f p))), (2, .int (nI i))], [], M2)) (S2 := (48, [(0, .ref m0), (1, .int (nI (by2 f p))), (2, .int (nI i))], [], M2)) rfl rfl rfl (fun c_45 => ?_) (fun c_45 => ?_)
          rotate_left
          · exact absurd (by decide) (of_decide_eq_false c_45)
          refine ps_st (S' := (51, [(0, .ref m0), (1, .int (nI (by2 f p))), (2, .int (nI i))], [.ref m0], M2)) rfl rfl rfl ?_
          refine ps_st (S' := (52, [(0, .ref m0), (1, .int (nI (by2 f p))), (2, .int (nI i))], [.ref m0, .ref m0], M2)) rfl rfl rfl ?_
          refine pr_int (j := 50) (S' := (55, [(0, .ref m0), (1, .int (nI (by2 f p))), (2, .int (nI i))], [.int (nI p1), .ref m0], M2)) rfl hR6 rfl hi9 rfl ?_
          refine ps_st (S' := (56, [(0, .ref m0), (1, .int (nI (by2 f p))), (2, .int (nI i))], [.int 2, .int (nI p1), .ref m0], M2)) rfl rfl rfl ?_
          refine ps_st (S' := (57, [(0, .ref m0), (1, .int (nI (by2 f p))), (2, .int (nI i))], [.int ((nI p1) + 2), .ref m0], M2)) rfl rfl rfl ?_
          rw [nI_add1 (p := p1) (k := 2) (x := 2) rfl (by omega)]
          show pl _ _ _ (_, [(0, .ref m0), (1, .int (nI (by2 f p))), (2, .int (nI i))], [.int (nI (p1 + 2)), .ref m0], M2) _
          refine pr_put (j := 50) rfl hR6 rfl (fun M13 I14 hR15 hi16 hI17 => ?_)
          have hF_18 := hF_10.mono (pIx hI17 (by decide)) (fun _ _ => rfl)
          have hEI19 := hEI11.put hI17 (by decide)
          show pl _ _ _ (60, [(0, .ref m0), (1, .int (nI (by2 f p))), (2, .int (nI i))], [], M13) _
          refine ps_st (S' := (61, [(0, .ref m0), (1, .int (nI (by2 f p))), (2, .int (nI i))], [.ref m0], M13)) rfl rfl rfl ?_
          refine ps_st (S' := (64, [(0, .ref m0), (1, .int (nI (by2 f p))), (2, .int (nI i))], [.long 4, .ref m0], M13)) rfl rfl rfl ?_
          refine pl_call (a := [.ref m0, .long 4]) (rest := []) rfl rfl rfl (rd_item (n := n) (f := f) (p := (p1 + 2)) (k := 4) hR15 hi16 hF_18 (by omega) (by decide)) (fun v20 M21 q22 => ?_)
          rcases q22 with q22 | q22
          · skip
            obtain ⟨I23, R24, q64_s, rfl, hR25, hI26, hX27⟩ := q22
            have hi28 := (hI26 50 (by decide)).trans hi16
            have hF_29 := hF_18.mono (cIx hI26 (by decide)) (cRx hX27 (by decide))
            have hEI30 := hEI19.tr hI26 (by decide)
            have hER31 := hER12.tr hX27 (by decide)
            show pl _ _ _ (67, [(0, .ref m0), (1, .int (nI (by2 f p))), (2, .int (nI i))], [.int 1], M21) _
            refine ps_if (S1 := (72, [(0, .ref m0), (1, .int (nI (by2 f p))), (2, .int (nI i))], [], M21)) (S2 := (70, [(0, .ref m0), (1, .int (nI (by2 f p))), (2, .int (nI i))], [], M21)) rfl rfl rfl (fun c_67 => ?_) (fun c_67 => ?_)
            rotate_left
            · exact absurd (by decide) (of_decide_eq_false c_67)
            refine ps_st (S' := (73, [(0, .ref m0), (1, .int (nI (by2 f p))), (2, .int (nI i))], [.ref m0], M21)) rfl rfl rfl ?_
            refine ps_st (S' := (74, [(0, .ref m0), (1, .int (nI (by2 f p))), (2, .int (nI i))], [.ref m0, .ref m0], M21)) rfl rfl rfl ?_
            refine pr_int (j := 50) (S' := (77, [(0, .ref m0), (1, .int (nI (by2 f p))), (2, .int (nI i))], [.int (nI (p1 + 2)), .ref m0], M21)) rfl hR25 rfl hi28 rfl ?_
            refine pl_call (a := [.ref m0, .int (nI (p1 + 2))]) (rest := []) rfl rfl rfl (rd_u4 (n := n) (f := f) (p := (p1 + 2)) hR25 hF_29 (by omega)) (fun v32 M33 q34 => ?_)
            obtain ⟨rfl, rfl⟩ := q34
            show pl _ _ _ (80, [(0, .ref m0), (1, .int (nI (by2 f p))), (2, .int (nI i))], [.long (nL (by4 f (p1 + 2)))], M21) _
            have hu_77 := by4_lt f (p1 + 2)
            refine ps_st (S' := (81, [(3, .long (nL (by4 f (p1 + 2)))), (0, .ref m0), (1, .int (nI (by2 f p))), (2, .int (nI i))], [], M21)) rfl rfl rfl ?_
            refine ps_st (S' := (82, [(3, .long (nL (by4 f (p1 + 2)))), (0, .ref m0), (1, .int (nI (by2 f p))), (2, .int (nI i))], [.ref m0], M21)) rfl rfl rfl ?_
            refine ps_st (S' := (83, [(3, .long (nL (by4 f (p1 + 2)))), (0, .ref m0), (1, .int (nI (by2 f p))), (2, .int (nI i))], [.ref m0, .ref m0], M21)) rfl rfl rfl ?_
            refine pr_int (j := 50) (S' := (86, [(3, .long (nL (by4 f (p1 + 2)))), (0, .ref m0), (1, .int (nI (by2 f p))), (2, .int (nI i))], [.int (nI (p1 + 2)), .ref m0], M21)) rfl hR25 rfl hi28 rfl ?_
            refine ps_st (S' := (87, [(3, .long (nL (by4 f (p1 + 2)))), (0, .ref m0), (1, .int (nI (by2 f p))), (2, .int (nI i))], [.int 4, .int (nI (p1 + 2)), .ref m0], M21)) rfl rfl rfl ?_
            refine ps_st (S' := (88, [(3, .long (nL (by4 f (p1 + 2)))), (0, .ref m0), (1, .int (nI (by2 f p))), (2, .int (nI i))], [.int ((nI (p1 + 2)) + 4), .ref m0], M21)) rfl rfl rfl ?_
            rw [nI_add1 (p := p1 + 2) (k := 4) (x := 4) rfl (by omega)]
            show pl _ _ _ (_, [(3, .long (nL (by4 f (p1 + 2)))), (0, .ref m0), (1, .int (nI (by2 f p))), (2, .int (nI i))], [.int (nI (p1 + 6)), .ref m0], M21) _
            refine pr_put (j := 50) rfl hR25 rfl (fun M35 I36 hR37 hi38 hI39 => ?_)
            have hF_40 := hF_29.mono (pIx hI39 (by decide)) (fun _ _ => rfl)
            have hEI41 := hEI30.put hI39 (by decide)
            show pl _ _ _ (91, [(3, .long (nL (by4 f (p1 + 2)))), (0, .ref m0), (1, .int (nI (by2 f p))), (2, .int (nI i))], [], M35) _
            refine ps_st (S' := (92, [(3, .long (nL (by4 f (p1 + 2)))), (0, .ref m0), (1, .int (nI (by2 f p))), (2, .int (nI i))], [.ref m0], M35)) rfl rfl rfl ?_
            refine ps_st (S' := (93, [(3, .long (nL (by4 f (p1 + 2)))), (0, .ref m0), (1, .int (nI (by2 f p))), (2, .int (nI i))], [.long (nL (by4 f (p1 + 2))), .ref m0], M35)) rfl rfl rfl ?_
            refine pl_call (a := [.ref m0, .long (nL (by4 f (p1 + 2)))]) (rest := []) rfl rfl rfl (rd_item (n := n) (f := f) (p := (p1 + 6)) (k := (by4 f (p1 + 2))) hR37 hi38 hF_40 (by omega) (by omega)) (fun v42 M43 q44 => ?_)
            rcases q44 with q44 | q44
            · skip
              obtain ⟨I45, R46, q93_s, rfl, hR47, hI48, hX49⟩ := q44
              have hi51 := (hI48 50 (by decide)).trans hi38
              have hF_52 := hF_40.mono (cIx hI48 (by decide)) (cRx hX49 (by decide))
              have hEI53 := hEI41.tr hI48 (by decide)
              have hER54 := hER31.tr hX49 (by decide)
              show pl _ _ _ (96, [(3, .long (nL (by4 f (p1 + 2)))), (0, .ref m0), (1, .int (nI (by2 f p))), (2, .int (nI i))], [.int 1], M43) _
              refine ps_if (S1 := (101, [(3, .long (nL (by4 f (p1 + 2)))), (0, .ref m0), (1, .int (nI (by2 f p))), (2, .int (nI i))], [], M43)) (S2 := (99, [(3, .long (nL (by4 f (p1 + 2)))), (0, .ref m0), (1, .int (nI (by2 f p))), (2, .int (nI i))], [], M43)) rfl rfl rfl (fun c_96 => ?_) (fun c_96 => ?_)
              rotate_left
              · exact absurd (by decide) (of_decide_eq_false c_96)
              refine ps_st (S' := (102, [(3, .long (nL (by4 f (p1 + 2)))), (0, .ref m0), (1, .int (nI (by2 f p))), (2, .int (nI i))], [.ref m0], M43)) rfl rfl rfl ?_
              refine ps_st (S' := (103, [(3, .long (nL (by4 f (p1 + 2)))), (0, .ref m0), (1, .int (nI (by2 f p))), (2, .int (nI i))], [.ref m0, .ref m0], M43)) rfl rfl rfl ?_
              refine pr_int (j := 50) (S' := (106, [(3, .long (nL (by4 f (p1 + 2)))), (0, .ref m0), (1, .int (nI (by2 f p))), (2, .int (nI i))], [.int (nI (p1 + 6)), .ref m0], M43)) rfl hR47 rfl hi51 rfl ?_
              refine ps_st (S' := (107, [(3, .long (nL (by4 f (p1 + 2)))), (0, .ref m0), (1, .int (nI (by2 f p))), (2, .int (nI i))], [.long (nL (by4 f (p1 + 2))), .int (nI (p1 + 6)), .ref m0], M43)) rfl rfl rfl ?_
              refine ps_st (S' := (108, [(3, .long (nL (by4 f (p1 + 2)))), (0, .ref m0), (1, .int (nI (by2 f p))), (2, .int (nI i))], [.int (Int64.toInt32 (nL (by4 f (p1 + 2)))), .int (nI (p1 + 6)), .ref m0], M43)) rfl rfl rfl ?_
              rw [l2i_nL (p := by4 f (p1 + 2)) (by omega)]
              show pl _ _ _ (_, [(3, .long (nL (by4 f (p1 + 2)))), (0, .ref m0), (1, .int (nI (by2 f p))), (2, .int (nI i))], [.int (nI (by4 f (p1 + 2))), .int (nI (p1 + 6)), .ref m0], M43) _
              refine ps_st (S' := (109, [(3, .long (nL (by4 f (p1 + 2)))), (0, .ref m0), (1, .int (nI (by2 f p))), (2, .int (nI i))], [.int ((nI (p1 + 6)) + (nI (by4 f (p1 + 2)))), .ref m0], M43)) rfl rfl rfl ?_
              rw [nI_add1 (p := p1 + 6) (k := by4 f (p1 + 2)) (x := (nI (by4 f (p1 + 2)))) rfl (by omega)]
              show pl _ _ _ (_, [(3, .long (nL (by4 f (p1 + 2)))), (0, .ref m0), (1, .int (nI (by2 f p))), (2, .int (nI i))], [.int (nI (p1 + 6 + by4 f (p1 + 2))), .ref m0], M43) _
              refine pr_put (j := 50) rfl hR47 rfl (fun M55 I56 hR57 hi58 hI59 => ?_)
              have hF_60 := hF_52.mono (pIx hI59 (by decide)) (fun _ _ => rfl)
              have hEI61 := hEI53.put hI59 (by decide)
              show pl _ _ _ (112, [(3, .long (nL (by4 f (p1 + 2)))), (0, .ref m0), (1, .int (nI (by2 f p))), (2, .int (nI i))], [], M55) _
              refine ps_st (S' := (115, [(2, .int ((nI i) + 1)), (3, .long (nL (by4 f (p1 + 2)))), (0, .ref m0), (1, .int (nI (by2 f p)))], [], M55)) rfl rfl rfl ?_
              rw [nI_add1 (p := i) (k := 1) (x := 1) rfl (by omega)]
              show pl _ _ _ (_, [(2, .int (nI (i + 1))), (3, .long (nL (by4 f (p1 + 2)))), (0, .ref m0), (1, .int (nI (by2 f p)))], [], M55) _
              refine ps_st (S' := (33, [(0, .ref m0), (1, .int (nI (by2 f p))), (2, .int (nI (i + 1)))], [], M55)) rfl rfl rfl ?_
              exact ih (i + 1) (p1 + 6 + by4 f (p1 + 2)) M55 I56 R46 hR57 hEI61 hER54 hi58 hF_60 (by omega) (by omega) (by
                  rw [← hs, s_atts_st (i := i) (p := p1) (by omega)]
                  rw [if_neg (by omega), if_neg (by omega), if_neg (by omega)])
            · skip
              obtain ⟨I62, R63, q93_s, rfl, hR64, hI65, hX66, hi67, hi68⟩ := q44
              have hi69 := (hI65 50 (by decide)).trans hi38
              have hF_70 := hF_40.mono (cIx hI65 (by decide)) (cRx hX66 (by decide))
              have hEI71 := hEI41.tr hI65 (by decide)
              have hER72 := hER31.tr hX66 (by decide)
              show pl _ _ _ (96, [(3, .long (nL (by4 f (p1 + 2)))), (0, .ref m0), (1, .int (nI (by2 f p))), (2, .int (nI i))], [.int 0], M43) _
              refine ps_if (S1 := (101, [(3, .long (nL (by4 f (p1 + 2)))), (0, .ref m0), (1, .int (nI (by2 f p))), (2, .int (nI i))], [], M43)) (S2 := (99, [(3, .long (nL (by4 f (p1 + 2)))), (0, .ref m0), (1, .int (nI (by2 f p))), (2, .int (nI i))], [], M43)) rfl rfl rfl (fun c_96 => ?_) (fun c_96 => ?_)
              · exact absurd (of_decide_eq_true c_96) (by decide)
              refine ps_st (S' := (100, [(3, .long (nL (by4 f (p1 + 2)))), (0, .ref m0), (1, .int (nI (by2 f p))), (2, .int (nI i))], [.int 0], M43)) rfl rfl rfl ?_
              exact ps_ret rfl rfl (Or.inr ⟨(1, p1 + 6), I62, R63, by
                  rw [← hs, s_atts_st (i := i) (p := p1) (by omega)]
                  rw [if_neg (by omega), if_neg (by omega), if_pos (by omega)], rfl, hR64, hEI71, hER72, hi67, hi68⟩)
          · skip
            obtain ⟨I73, R74, q64_s, rfl, hR75, hI76, hX77, hi78, hi79⟩ := q22
            have hi80 := (hI76 50 (by decide)).trans hi16
            have hF_81 := hF_18.mono (cIx hI76 (by decide)) (cRx hX77 (by decide))
            have hEI82 := hEI19.tr hI76 (by decide)
            have hER83 := hER12.tr hX77 (by decide)
            show pl _ _ _ (67, [(0, .ref m0), (1, .int (nI (by2 f p))), (2, .int (nI i))], [.int 0], M21) _
            refine ps_if (S1 := (72, [(0, .ref m0), (1, .int (nI (by2 f p))), (2, .int (nI i))], [], M21)) (S2 := (70, [(0, .ref m0), (1, .int (nI (by2 f p))), (2, .int (nI i))], [], M21)) rfl rfl rfl (fun c_67 => ?_) (fun c_67 => ?_)
            · exact absurd (of_decide_eq_true c_67) (by decide)
            refine ps_st (S' := (71, [(0, .ref m0), (1, .int (nI (by2 f p))), (2, .int (nI i))], [.int 0], M21)) rfl rfl rfl ?_
            exact ps_ret rfl rfl (Or.inr ⟨(1, p1 + 2), I73, R74, by
                rw [← hs, s_atts_st (i := i) (p := p1) (by omega)]
                rw [if_neg (by omega), if_pos (by omega)], rfl, hR75, hEI82, hER83, hi78, hi79⟩)
        · skip
          obtain ⟨I84, R85, q42_s, rfl, hR86, hI87, hX88, hi89, hi90⟩ := q3
          have hi91 := (hI87 50 (by decide)).trans hl50
          have hF_92 := hF1.mono (cIx hI87 (by decide)) (cRx hX88 (by decide))
          have hEI93 := hEI1.tr hI87 (by decide)
          have hER94 := hER1.tr hX88 (by decide)
          show pl _ _ _ (45, [(0, .ref m0), (1, .int (nI (by2 f p))), (2, .int (nI i))], [.int 0], M2) _
          refine ps_if (S1 := (50, [(0, .ref m0), (1, .int (nI (by2 f p))), (2, .int (nI i))], [], M2)) (S2 := (48, [(0, .ref m0), (1, .int (nI (by2 f p))), (2, .int (nI i))], [], M2)) rfl rfl rfl (fun c_45 => ?_) (fun c_45 => ?_)
          · exact absurd (of_decide_eq_true c_45) (by decide)
          refine ps_st (S' := (49, [(0, .ref m0), (1, .int (nI (by2 f p))), (2, .int (nI i))], [.int 0], M2)) rfl rfl rfl ?_
          exact ps_ret rfl rfl (Or.inr ⟨(1, p1), I84, R85, by
              rw [← hs, s_atts_st (i := i) (p := p1) (by omega)]
              rw [if_pos (by omega)], rfl, hR86, hEI93, hER94, hi89, hi90⟩)
  refine ps_st (S' := (1, [(0, .ref m0)], [.ref m0], M)) rfl rfl rfl ?_
  refine ps_st (S' := (4, [(0, .ref m0)], [.long 2, .ref m0], M)) rfl rfl rfl ?_
  refine pl_call (a := [.ref m0, .long 2]) (rest := []) rfl rfl rfl (rd_item (n := n) (f := f) (p := p) (k := 2) hR hi50 hF (by omega) (by decide)) (fun v95 M96 q97 => ?_)
  rcases q97 with q97 | q97
  · skip
    obtain ⟨I98, R99, q4_s, rfl, hR100, hI101, hX102⟩ := q97
    have hi103 := (hI101 50 (by decide)).trans hi50
    have hF_104 := hF.mono (cIx hI101 (by decide)) (cRx hX102 (by decide))
    have hEI105 := hEI.tr hI101 (by decide)
    have hER106 := hER.tr hX102 (by decide)
    show pl _ _ _ (7, [(0, .ref m0)], [.int 1], M96) _
    refine ps_if (S1 := (12, [(0, .ref m0)], [], M96)) (S2 := (10, [(0, .ref m0)], [], M96)) rfl rfl rfl (fun c_7 => ?_) (fun c_7 => ?_)
    rotate_left
    · exact absurd (by decide) (of_decide_eq_false c_7)
    refine ps_st (S' := (13, [(0, .ref m0)], [.ref m0], M96)) rfl rfl rfl ?_
    refine ps_st (S' := (14, [(0, .ref m0)], [.ref m0, .ref m0], M96)) rfl rfl rfl ?_
    refine pr_int (j := 50) (S' := (17, [(0, .ref m0)], [.int (nI p), .ref m0], M96)) rfl hR100 rfl hi103 rfl ?_
    refine pl_call (a := [.ref m0, .int (nI p)]) (rest := []) rfl rfl rfl (rd_u2 (n := n) (f := f) (p := p) hR100 hF_104 (by omega)) (fun v107 M108 q109 => ?_)
    obtain ⟨rfl, rfl⟩ := q109
    show pl _ _ _ (20, [(0, .ref m0)], [.int (nI (by2 f p))], M96) _
    have hu_17 := by2_lt f p
    refine ps_st (S' := (21, [(1, .int (nI (by2 f p))), (0, .ref m0)], [], M96)) rfl rfl rfl ?_
    refine ps_st (S' := (22, [(1, .int (nI (by2 f p))), (0, .ref m0)], [.ref m0], M96)) rfl rfl rfl ?_
    refine ps_st (S' := (23, [(1, .int (nI (by2 f p))), (0, .ref m0)], [.ref m0, .ref m0], M96)) rfl rfl rfl ?_
    refine pr_int (j := 50) (S' := (26, [(1, .int (nI (by2 f p))), (0, .ref m0)], [.int (nI p), .ref m0], M96)) rfl hR100 rfl hi103 rfl ?_
    refine ps_st (S' := (27, [(1, .int (nI (by2 f p))), (0, .ref m0)], [.int 2, .int (nI p), .ref m0], M96)) rfl rfl rfl ?_
    refine ps_st (S' := (28, [(1, .int (nI (by2 f p))), (0, .ref m0)], [.int ((nI p) + 2), .ref m0], M96)) rfl rfl rfl ?_
    rw [nI_add1 (p := p) (k := 2) (x := 2) rfl (by omega)]
    show pl _ _ _ (_, [(1, .int (nI (by2 f p))), (0, .ref m0)], [.int (nI (p + 2)), .ref m0], M96) _
    refine pr_put (j := 50) rfl hR100 rfl (fun M110 I111 hR112 hi113 hI114 => ?_)
    have hF_115 := hF_104.mono (pIx hI114 (by decide)) (fun _ _ => rfl)
    have hEI116 := hEI105.put hI114 (by decide)
    show pl _ _ _ (31, [(1, .int (nI (by2 f p))), (0, .ref m0)], [], M110) _
    refine ps_st (S' := (32, [(1, .int (nI (by2 f p))), (0, .ref m0)], [.int 0], M110)) rfl rfl rfl ?_
    refine ps_st (S' := (33, [(0, .ref m0), (1, .int (nI (by2 f p))), (2, .int 0)], [], M110)) rfl rfl rfl ?_
    exact (LL kf) (0) (p + 2) M110 I111 R99 hR112 hEI116 hER106 hi113 hF_115 (by omega) (by omega) (by
        unfold s_attributes
        rw [if_neg (by omega)]
        rfl)
  · skip
    obtain ⟨I117, R118, q4_s, rfl, hR119, hI120, hX121, hi122, hi123⟩ := q97
    have hi124 := (hI120 50 (by decide)).trans hi50
    have hF_125 := hF.mono (cIx hI120 (by decide)) (cRx hX121 (by decide))
    have hEI126 := hEI.tr hI120 (by decide)
    have hER127 := hER.tr hX121 (by decide)
    show pl _ _ _ (7, [(0, .ref m0)], [.int 0], M96) _
    refine ps_if (S1 := (12, [(0, .ref m0)], [], M96)) (S2 := (10, [(0, .ref m0)], [], M96)) rfl rfl rfl (fun c_7 => ?_) (fun c_7 => ?_)
    · exact absurd (of_decide_eq_true c_7) (by decide)
    refine ps_st (S' := (11, [(0, .ref m0)], [.int 0], M96)) rfl rfl rfl ?_
    exact ps_ret rfl rfl (Or.inr ⟨(1, p), I117, R118, by
        unfold s_attributes
        rw [if_pos (by omega)], rfl, hR119, hEI126, hER127, hi122, hi123⟩)
set_option maxHeartbeats 1000000 in
theorem rd_members {g : xe_G} {m0 : Nat} {q : Nat → Nat} {z : Nat × Nat} {I : rI} {R : rR} {M : mi_H} {n : Nat} {f : Nat → Int32} {p : Nat} (hR : RS g m0 q z I R M) (hi50 : I 50 = some (nI p)) (hF : FK n f I R) (hp : p ≤ n) : pt (mT g) 224 [.ref m0] M (fun v M' => (∃ (p' : Nat) (I' : rI) (R' : rR), (s_mbs f n p = .inr p') ∧ v = some (.int 1) ∧ RS g m0 q z I' R' M' ∧ eqI [47, 48, 50] I I' ∧ eqR [] R R' ∧ I' 50 = some (nI p')) ∨ (∃ (e : Nat × Nat) (I' : rI) (R' : rR), (s_mbs f n p = .inl e) ∧ v = some (.int 0) ∧ RS g m0 q z I' R' M' ∧ eqI [47, 48, 50] I I' ∧ eqR [] R R' ∧ I' 47 = some (nI e.1) ∧ I' 48 = some (nI e.2))) := by
  refine pt_in (b := mb_224 g) rfl (fun kf => ?_)
  show pl (mT g) kf (mb_224 g).2 (0, [(0, .ref m0)], [], M) _
  have hEI : eqI [47, 48, 50] I I := eqI.rf
  have hER : eqR [] R R := eqR.rf
  have hn := hF.1
  have LL : ∀ (kf : Nat), (∀ (i p1 : Nat) (M1 : mi_H) (I1 : rI) (R1 : rR), (RS g m0 q z I1 R1 M1) → (eqI [47, 48, 50] I I1) → (eqR [] R R1) → (I1 50 = some (nI p1)) → (FK n f I1 R1) → (i ≤ by2 f p) → (p1 ≤ n) → (s_mems f n (by2 f p - i) p1 = s_mbs f n p) →  pl (mT g) kf (mb_224 g).2 (33, [(0, .ref m0), (1, .int (nI (by2 f p))), (2, .int (nI i))], [], M1) (fun v M' => (∃ (p' : Nat) (I' : rI) (R' : rR), (s_mbs f n p = .inr p') ∧ v = some (.int 1) ∧ RS g m0 q z I' R' M' ∧ eqI [47, 48, 50] I I' ∧ eqR [] R R' ∧ I' 50 = some (nI p')) ∨ (∃ (e : Nat × Nat) (I' : rI) (R' : rR), (s_mbs f n p = .inl e) ∧ v = some (.int 0) ∧ RS g m0 q z I' R' M' ∧ eqI [47, 48, 50] I I' ∧ eqR [] R R' ∧ I' 47 = some (nI e.1) ∧ I' 48 = some (nI e.2)))) ∧ (∀ (i p1 j : Nat) (M1 : mi_H) (I1 : rI) (R1 : rR), (RS g m0 q z I1 R1 M1) → (eqI [47, 48, 50] I I1) → (eqR [] R R1) → (I1 50 = some (nI (p1 + 2 * j))) → (FK n f I1 R1) → (i < by2 f p) → (j ≤ 3) → (p1 + 2 * j ≤ n) → (s_mems f n (by2 f p - i) p1 = s_mbs f n p) →  pl (mT g) kf (mb_224 g).2 (40, [(0, .ref m0), (1, .int (nI (by2 f p))), (2, .int (nI i)), (3, .int (nI j))], [], M1) (fun v M' => (∃ (p' : Nat) (I' : rI) (R' : rR), (s_mbs f n p = .inr p') ∧ v = some (.int 1) ∧ RS g m0 q z I' R' M' ∧ eqI [47, 48, 50] I I' ∧ eqR [] R R' ∧ I' 50 = some (nI p')) ∨ (∃ (e : Nat × Nat) (I' : rI) (R' : rR), (s_mbs f n p = .inl e) ∧ v = some (.int 0) ∧ RS g m0 q z I' R' M' ∧ eqI [47, 48, 50] I I' ∧ eqR [] R R' ∧ I' 47 = some (nI e.1) ∧ I' 48 = some (nI e.2)))) := by
    intro kf
    induction kf with
    | zero => exact ⟨by intros; exact pl_0, by intros; exact pl_0⟩
    | succ kf ih =>
      refine ⟨?_, ?_⟩
      · skip
        intro i p1 M1 I1 R1 hR1 hEI1 hER1 hl50 hF1 hi hp1 hs
        have hu9 := by2_lt f p
        refine ps_st1 (S' := (34, [(0, .ref m0), (1, .int (nI (by2 f p))), (2, .int (nI i))], [.int (nI i)], M1)) rfl rfl rfl ?_
        refine ps_st (S' := (35, [(0, .ref m0), (1, .int (nI (by2 f p))), (2, .int (nI i))], [.int (nI (by2 f p)), .int (nI i)], M1)) rfl rfl rfl ?_
        refine ps_if2 (S1 := (88, [(0, .ref m0), (1, .int (nI (by2 f p))), (2, .int (nI i))], [], M1)) (S2 := (38, [(0, .ref m0), (1, .int (nI (by2 f p))), (2, .int (nI i))], [], M1)) rfl rfl rfl (fun c_35 => ?_) (fun c_35 => ?_)
        · have c_35 : (nI (by2 f p)) ≤ (nI i) := of_decide_eq_true c_35
          have n_35 : by2 f p ≤ i := (le_nI (p := by2 f p) (n := i) (Nat.lt_trans (by2_lt _ _) (by decide)) (by omega)).mp c_35
          refine ps_st (S' := (89, [(0, .ref m0), (1, .int (nI (by2 f p))), (2, .int (nI i))], [.int 1], M1)) rfl rfl rfl ?_
          exact ps_ret rfl rfl (Or.inl ⟨p1, I1, R1, by rw [← hs, show by2 f p - i = 0 by omega]; rfl, rfl, hR1, hEI1, hER1, hl50⟩)
        · have c_35 : ¬ ((nI (by2 f p)) ≤ (nI i)) := of_decide_eq_false c_35
          have n_35 : ¬ (by2 f p ≤ i) := fun h9 => c_35 ((le_nI (p := by2 f p) (n := i) (Nat.lt_trans (by2_lt _ _) (by decide)) (by omega)).mpr h9)
          refine ps_st (S' := (39, [(0, .ref m0), (1, .int (nI (by2 f p))), (2, .int (nI i))], [.int 0], M1)) rfl rfl rfl ?_
          refine ps_st (S' := (40, [(0, .ref m0), (1, .int (nI (by2 f p))), (2, .int (nI i)), (3, .int 0)], [], M1)) rfl rfl rfl ?_
          exact ih.2 (i) (p1) (0) M1 I1 R1 hR1 hEI1 hER1 hl50 hF1 (by omega) (by omega) (by omega) (hs)
      · skip
        intro i p1 j M1 I1 R1 hR1 hEI1 hER1 hl50 hF1 hi hj hp1 hs
        have hu9 := by2_lt f p
        refine ps_st1 (S' := (41, [(0, .ref m0), (1, .int (nI (by2 f p))), (2, .int (nI i)), (3, .int (nI j))], [.int (nI j)], M1)) rfl rfl rfl ?_
        refine ps_st (S' := (42, [(0, .ref m0), (1, .int (nI (by2 f p))), (2, .int (nI i)), (3, .int (nI j))], [.int 3, .int (nI j)], M1)) rfl rfl rfl ?_
        refine ps_if2 (S1 := (73, [(0, .ref m0), (1, .int (nI (by2 f p))), (2, .int (nI i)), (3, .int (nI j))], [], M1)) (S2 := (45, [(0, .ref m0), (1, .int (nI (by2 f p))), (2, .int (nI i)), (3, .int (nI j))], [], M1)) rfl rfl rfl (fun c_42 => ?_) (fun c_42 => ?_)
        · have c_42 : 3 ≤ (nI j) := of_decide_eq_true c_42
          have n_42 : 3 ≤ j := (le_nI (p := 3) (n := j) (by decide) (by omega)).mp c_42
          refine ps_st (S' := (74, [(0, .ref m0), (1, .int (nI (by2 f p))), (2, .int (nI i)), (3, .int (nI j))], [.ref m0], M1)) rfl rfl rfl ?_
          refine pl_call (a := [.ref m0]) (rest := []) rfl rfl rfl (rd_attributes (n := n) (f := f) (p := (p1 + 2 * j)) hR1 hl50 hF1 (by omega)) (fun v1 M2 q3 => ?_)
          rcases q3 with q3 | q3
          · skip
            obtain ⟨p'4, I5, R6, q74_s, rfl, hR7, hI8, hX9, hi10⟩ := q3
            have hF_11 := hF1.mono (cIx hI8 (by decide)) (cRx hX9 (by decide))
            have hEI12 := hEI1.tr hI8 (by decide)
            have hER13 := hER1.tr hX9 (by decide)
            show pl _ _ _ (77, [(0, .ref m0), (1, .int (nI (by2 f p))), (2, .int (nI i)), (3, .int (nI j))], [.int 1], M2) _
            have hle_74 := s_attributes_le2 q74_s
            refine ps_if (S1 := (82, [(0, .ref m0), (1, .int (nI (by2 f p))), (2, .int (nI i)), (3, .int (nI j))], [], M2)) (S2 := (80, [(0, .ref m0), (1, .int (nI (by2 f p))), (2, .int (nI i)), (3, .int (nI j))], [], M2)) rfl rfl rfl (fun c_77 => ?_) (fun c_77 => ?_)
            rotate_left
            · exact absurd (by decide) (of_decide_eq_false c_77)
            refine ps_st (S' := (85, [(2, .int ((nI i) + 1)), (0, .ref m0), (1, .int (nI (by2 f p))), (3, .int (nI j))], [], M2)) rfl rfl rfl ?_
            rw [nI_add1 (p := i) (k := 1) (x := 1) rfl (by omega)]
            show pl _ _ _ (_, [(2, .int (nI (i + 1))), (0, .ref m0), (1, .int (nI (by2 f p))), (3, .int (nI j))], [], M2) _
            refine ps_st (S' := (33, [(0, .ref m0), (1, .int (nI (by2 f p))), (2, .int (nI (i + 1)))], [], M2)) rfl rfl rfl ?_
            exact ih.1 (i + 1) (p'4) M2 I5 R6 hR7 hEI12 hER13 hi10 hF_11 (by omega) (by omega) (by
                rw [← hs, s_mems_st (i := i) (p := p1) (by omega), if_neg (by omega), if_neg (by omega), if_neg (by omega)]
                have e3 : j = 3 := by omega
                subst e3
                rw [show s_attributes f n (p1 + 6) = _ from q74_s]
                first | done | rfl)
          · skip
            obtain ⟨e14, I15, R16, q74_s, rfl, hR17, hI18, hX19, hi20, hi21⟩ := q3
            have hF_22 := hF1.mono (cIx hI18 (by decide)) (cRx hX19 (by decide))
            have hEI23 := hEI1.tr hI18 (by decide)
            have hER24 := hER1.tr hX19 (by decide)
            show pl _ _ _ (77, [(0, .ref m0), (1, .int (nI (by2 f p))), (2, .int (nI i)), (3, .int (nI j))], [.int 0], M2) _
            refine ps_if (S1 := (82, [(0, .ref m0), (1, .int (nI (by2 f p))), (2, .int (nI i)), (3, .int (nI j))], [], M2)) (S2 := (80, [(0, .ref m0), (1, .int (nI (by2 f p))), (2, .int (nI i)), (3, .int (nI j))], [], M2)) rfl rfl rfl (fun c_77 => ?_) (fun c_77 => ?_)
            · exact absurd (of_decide_eq_true c_77) (by decide)
            refine ps_st (S' := (81, [(0, .ref m0), (1, .int (nI (by2 f p))), (2, .int (nI i)), (3, .int (nI j))], [.int 0], M2)) rfl rfl rfl ?_
            exact ps_ret rfl rfl (Or.inr ⟨e14, I15, R16, by
                rw [← hs, s_mems_st (i := i) (p := p1) (by omega), if_neg (by omega), if_neg (by omega), if_neg (by omega)]
                have e3 : j = 3 := by omega
                subst e3
                rw [show s_attributes f n (p1 + 6) = _ from q74_s]
                first | done | rfl, rfl, hR17, hEI23, hER24, hi20, hi21⟩)
        · have c_42 : ¬ (3 ≤ (nI j)) := of_decide_eq_false c_42
          have n_42 : ¬ (3 ≤ j) := fun h9 => c_42 ((le_nI (p := 3) (n := j) (by decide) (by omega)).mpr h9)
          refine ps_st (S' := (46, [(0, .ref m0), (1, .int (nI (by2 f p))), (2, .int (nI i)), (3, .int (nI j))], [.ref m0], M1)) rfl rfl rfl ?_
          refine ps_st (S' := (49, [(0, .ref m0), (1, .int (nI (by2 f p))), (2, .int (nI i)), (3, .int (nI j))], [.long 2, .ref m0], M1)) rfl rfl rfl ?_
          refine pl_call (a := [.ref m0, .long 2]) (rest := []) rfl rfl rfl (rd_item (n := n) (f := f) (p := (p1 + 2 * j)) (k := 2) hR1 hl50 hF1 (by omega) (by decide)) (fun v25 M26 q27 => ?_)
          rcases q27 with q27 | q27
          · skip
            obtain ⟨I28, R29, q49_s, rfl, hR30, hI31, hX32⟩ := q27
            have hi33 := (hI31 50 (by decide)).trans hl50
            have hF_34 := hF1.mono (cIx hI31 (by decide)) (cRx hX32 (by decide))
            have hEI35 := hEI1.tr hI31 (by decide)
            have hER36 := hER1.tr hX32 (by decide)
            show pl _ _ _ (52, [(0, .ref m0), (1, .int (nI (by2 f p))), (2, .int (nI i)), (3, .int (nI j))], [.int 1], M26) _
            refine ps_if (S1 := (57, [(0, .ref m0), (1, .int (nI (by2 f p))), (2, .int (nI i)), (3, .int (nI j))], [], M26)) (S2 := (55, [(0, .ref m0), (1, .int (nI (by2 f p))), (2, .int (nI i)), (3, .int (nI j))], [], M26)) rfl rfl rfl (fun c_52 => ?_) (fun c_52 => ?_)
            rotate_left
            · exact absurd (by decide) (of_decide_eq_false c_52)
            refine ps_st (S' := (58, [(0, .ref m0), (1, .int (nI (by2 f p))), (2, .int (nI i)), (3, .int (nI j))], [.ref m0], M26)) rfl rfl rfl ?_
            refine ps_st (S' := (59, [(0, .ref m0), (1, .int (nI (by2 f p))), (2, .int (nI i)), (3, .int (nI j))], [.ref m0, .ref m0], M26)) rfl rfl rfl ?_
            refine pr_int (j := 50) (S' := (62, [(0, .ref m0), (1, .int (nI (by2 f p))), (2, .int (nI i)), (3, .int (nI j))], [.int (nI (p1 + 2 * j)), .ref m0], M26)) rfl hR30 rfl hi33 rfl ?_
            refine ps_st (S' := (63, [(0, .ref m0), (1, .int (nI (by2 f p))), (2, .int (nI i)), (3, .int (nI j))], [.int 2, .int (nI (p1 + 2 * j)), .ref m0], M26)) rfl rfl rfl ?_
            refine ps_st (S' := (64, [(0, .ref m0), (1, .int (nI (by2 f p))), (2, .int (nI i)), (3, .int (nI j))], [.int ((nI (p1 + 2 * j)) + 2), .ref m0], M26)) rfl rfl rfl ?_
            rw [nI_add1 (p := p1 + 2 * j) (k := 2) (x := 2) rfl (by omega)]
            show pl _ _ _ (_, [(0, .ref m0), (1, .int (nI (by2 f p))), (2, .int (nI i)), (3, .int (nI j))], [.int (nI (p1 + 2 * j + 2)), .ref m0], M26) _
            refine pr_put (j := 50) rfl hR30 rfl (fun M37 I38 hR39 hi40 hI41 => ?_)
            have hF_42 := hF_34.mono (pIx hI41 (by decide)) (fun _ _ => rfl)
            have hEI43 := hEI35.put hI41 (by decide)
            show pl _ _ _ (67, [(0, .ref m0), (1, .int (nI (by2 f p))), (2, .int (nI i)), (3, .int (nI j))], [], M37) _
            refine ps_st (S' := (70, [(3, .int ((nI j) + 1)), (0, .ref m0), (1, .int (nI (by2 f p))), (2, .int (nI i))], [], M37)) rfl rfl rfl ?_
            rw [nI_add1 (p := j) (k := 1) (x := 1) rfl (by omega)]
            show pl _ _ _ (_, [(3, .int (nI (j + 1))), (0, .ref m0), (1, .int (nI (by2 f p))), (2, .int (nI i))], [], M37) _
            refine ps_st (S' := (40, [(0, .ref m0), (1, .int (nI (by2 f p))), (2, .int (nI i)), (3, .int (nI (j + 1)))], [], M37)) rfl rfl rfl ?_
            exact ih.2 (i) (p1) (j + 1) M37 I38 R29 hR39 hEI43 hER36 hi40 hF_42 (hi) (by omega) (by omega) (hs)
          · skip
            obtain ⟨I44, R45, q49_s, rfl, hR46, hI47, hX48, hi49, hi51⟩ := q27
            have hi52 := (hI47 50 (by decide)).trans hl50
            have hF_53 := hF1.mono (cIx hI47 (by decide)) (cRx hX48 (by decide))
            have hEI54 := hEI1.tr hI47 (by decide)
            have hER55 := hER1.tr hX48 (by decide)
            show pl _ _ _ (52, [(0, .ref m0), (1, .int (nI (by2 f p))), (2, .int (nI i)), (3, .int (nI j))], [.int 0], M26) _
            refine ps_if (S1 := (57, [(0, .ref m0), (1, .int (nI (by2 f p))), (2, .int (nI i)), (3, .int (nI j))], [], M26)) (S2 := (55, [(0, .ref m0), (1, .int (nI (by2 f p))), (2, .int (nI i)), (3, .int (nI j))], [], M26)) rfl rfl rfl (fun c_52 => ?_) (fun c_52 => ?_)
            · exact absurd (of_decide_eq_true c_52) (by decide)
            refine ps_st (S' := (56, [(0, .ref m0), (1, .int (nI (by2 f p))), (2, .int (nI i)), (3, .int (nI j))], [.int 0], M26)) rfl rfl rfl ?_
            exact ps_ret rfl rfl (Or.inr ⟨(1, p1 + 2 * j), I44, R45, by
                rw [← hs]
                exact s_mems_bad (by omega) (by omega) (by omega) (by omega), rfl, hR46, hEI54, hER55, hi49, hi51⟩)
  refine ps_st (S' := (1, [(0, .ref m0)], [.ref m0], M)) rfl rfl rfl ?_
  refine ps_st (S' := (4, [(0, .ref m0)], [.long 2, .ref m0], M)) rfl rfl rfl ?_
  refine pl_call (a := [.ref m0, .long 2]) (rest := []) rfl rfl rfl (rd_item (n := n) (f := f) (p := p) (k := 2) hR hi50 hF (by omega) (by decide)) (fun v56 M57 q58 => ?_)
  rcases q58 with q58 | q58
  · skip
    obtain ⟨I59, R60, q4_s, rfl, hR61, hI62, hX63⟩ := q58
    have hi64 := (hI62 50 (by decide)).trans hi50
    have hF_65 := hF.mono (cIx hI62 (by decide)) (cRx hX63 (by decide))
    have hEI66 := hEI.tr hI62 (by decide)
    have hER67 := hER.tr hX63 (by decide)
    show pl _ _ _ (7, [(0, .ref m0)], [.int 1], M57) _
    refine ps_if (S1 := (12, [(0, .ref m0)], [], M57)) (S2 := (10, [(0, .ref m0)], [], M57)) rfl rfl rfl (fun c_7 => ?_) (fun c_7 => ?_)
    rotate_left
    · exact absurd (by decide) (of_decide_eq_false c_7)
    refine ps_st (S' := (13, [(0, .ref m0)], [.ref m0], M57)) rfl rfl rfl ?_
    refine ps_st (S' := (14, [(0, .ref m0)], [.ref m0, .ref m0], M57)) rfl rfl rfl ?_
    refine pr_int (j := 50) (S' := (17, [(0, .ref m0)], [.int (nI p), .ref m0], M57)) rfl hR61 rfl hi64 rfl ?_
    refine pl_call (a := [.ref m0, .int (nI p)]) (rest := []) rfl rfl rfl (rd_u2 (n := n) (f := f) (p := p) hR61 hF_65 (by omega)) (fun v68 M69 q70 => ?_)
    obtain ⟨rfl, rfl⟩ := q70
    show pl _ _ _ (20, [(0, .ref m0)], [.int (nI (by2 f p))], M57) _
    have hu_17 := by2_lt f p
    refine ps_st (S' := (21, [(1, .int (nI (by2 f p))), (0, .ref m0)], [], M57)) rfl rfl rfl ?_
    refine ps_st (S' := (22, [(1, .int (nI (by2 f p))), (0, .ref m0)], [.ref m0], M57)) rfl rfl rfl ?_
    refine ps_st (S' := (23, [(1, .int (nI (by2 f p))), (0, .ref m0)], [.ref m0, .ref m0], M57)) rfl rfl rfl ?_
    refine pr_int (j := 50) (S' := (26, [(1, .int (nI (by2 f p))), (0, .ref m0)], [.int (nI p), .ref m0], M57)) rfl hR61 rfl hi64 rfl ?_
    refine ps_st (S' := (27, [(1, .int (nI (by2 f p))), (0, .ref m0)], [.int 2, .int (nI p), .ref m0], M57)) rfl rfl rfl ?_
    refine ps_st (S' := (28, [(1, .int (nI (by2 f p))), (0, .ref m0)], [.int ((nI p) + 2), .ref m0], M57)) rfl rfl rfl ?_
    rw [nI_add1 (p := p) (k := 2) (x := 2) rfl (by omega)]
    show pl _ _ _ (_, [(1, .int (nI (by2 f p))), (0, .ref m0)], [.int (nI (p + 2)), .ref m0], M57) _
    refine pr_put (j := 50) rfl hR61 rfl (fun M71 I72 hR73 hi74 hI75 => ?_)
    have hF_76 := hF_65.mono (pIx hI75 (by decide)) (fun _ _ => rfl)
    have hEI77 := hEI66.put hI75 (by decide)
    show pl _ _ _ (31, [(1, .int (nI (by2 f p))), (0, .ref m0)], [], M71) _
    refine ps_st (S' := (32, [(1, .int (nI (by2 f p))), (0, .ref m0)], [.int 0], M71)) rfl rfl rfl ?_
    refine ps_st (S' := (33, [(0, .ref m0), (1, .int (nI (by2 f p))), (2, .int 0)], [], M71)) rfl rfl rfl ?_
    exact (LL kf).1 (0) (p + 2) M71 I72 R60 hR73 hEI77 hER67 hi74 hF_76 (by omega) (by omega) (by
        unfold s_mbs
        rw [if_neg (by omega)]
        rfl)
  · skip
    obtain ⟨I78, R79, q4_s, rfl, hR80, hI81, hX82, hi83, hi84⟩ := q58
    have hi85 := (hI81 50 (by decide)).trans hi50
    have hF_86 := hF.mono (cIx hI81 (by decide)) (cRx hX82 (by decide))
    have hEI87 := hEI.tr hI81 (by decide)
    have hER88 := hER.tr hX82 (by decide)
    show pl _ _ _ (7, [(0, .ref m0)], [.int 0], M57) _
    refine ps_if (S1 := (12, [(0, .ref m0)], [], M57)) (S2 := (10, [(0, .ref m0)], [], M57)) rfl rfl rfl (fun c_7 => ?_) (fun c_7 => ?_)
    · exact absurd (of_decide_eq_true c_7) (by decide)
    refine ps_st (S' := (11, [(0, .ref m0)], [.int 0], M57)) rfl rfl rfl ?_
    exact ps_ret rfl rfl (Or.inr ⟨(1, p), I78, R79, by
        unfold s_mbs
        rw [if_pos (by omega)], rfl, hR80, hEI87, hER88, hi83, hi84⟩)
