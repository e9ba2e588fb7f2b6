set_option maxHeartbeats 1000000 in
theorem rd_wide {g : xe_G} {m0 : Nat} {q : Nat → Nat} {z : Nat × Nat} {I : rI} {R : rR} {M : mi_H} {tx : List (List Nat)} {cN : Nat} {A : Nat → Nat} {s : Nat} {l : List Nat} {k : Nat} (hR : RS g m0 q z I R M)  (hY : SYT tx cN A I R) (hs : s < tx.length ∧ tx.getD s [] = l) (hk : k < l.length) : pt (mT g) 255 [.ref m0, .int (nI s), .int (nI k)] M (fun v M' => (v = some (.int (nI (wdN (l.getD k 0)))) ∧ M = M')) := by
  refine pt_in (b := mb_255 g) rfl (fun kf => ?_)
  show pl (mT g) kf (mb_255 g).2 (0, [(0, .ref m0), (1, .int (nI s)), (2, .int (nI k))], [], M) _
  have hln := hY.ln hs
  have hts := hY.1.2.2
  refine ps_st (S' := (1, [(0, .ref m0), (1, .int (nI s)), (2, .int (nI k))], [.ref m0], M)) rfl rfl rfl ?_
  refine ps_st (S' := (2, [(0, .ref m0), (1, .int (nI s)), (2, .int (nI k))], [.int (nI s), .ref m0], M)) rfl rfl rfl ?_
  refine ps_st (S' := (3, [(0, .ref m0), (1, .int (nI s)), (2, .int (nI k))], [.int (nI k), .int (nI s), .ref m0], M)) rfl rfl rfl ?_
  refine pl_call (a := [.ref m0, .int (nI s), .int (nI k)]) (rest := []) rfl rfl rfl (rd_at (tx := tx) (cN := cN) (A := A) (s := s) (l := l) (k := k) hR hY (hs) (by omega)) (fun v1 M2 q3 => ?_)
  obtain ⟨rfl, rfl⟩ := q3
  show pl _ _ _ (6, [(0, .ref m0), (1, .int (nI s)), (2, .int (nI k))], [.int (nI (l.getD k 0))], M) _
  have hc_3 := hY.ch hs (k := k) (by omega)
  refine ps_st (S' := (8, [(0, .ref m0), (1, .int (nI s)), (2, .int (nI k))], [.int 74, .int (nI (l.getD k 0))], M)) rfl rfl rfl ?_
  refine ps_if2 (S1 := (22, [], [], M)) (S2 := (11, [(0, .ref m0), (1, .int (nI s)), (2, .int (nI k))], [], M)) rfl rfl rfl (fun c_8 => ?_) (fun c_8 => ?_)
  · have c_8 : (nI (l.getD k 0)) = 74 := of_decide_eq_true c_8
    have n_8 : l.getD k 0 = 74 := (eq_nI (p := l.getD k 0) (n := 74) (by omega) (by decide)).mp c_8
    refine ps_st (S' := (23, [], [.int 1], M)) rfl rfl rfl ?_
    refine ps_st (S' := (27, [], [.int 1], M)) rfl rfl rfl ?_
    exact ps_ret rfl rfl (⟨congrArg (fun x => some (Value.int (nI x))) (show 1 = wdN (l.getD k 0) from by
        unfold wdN
        rw [if_pos (by omega)]), rfl⟩)
  · have c_8 : ¬ ((nI (l.getD k 0)) = 74) := of_decide_eq_false c_8
    have n_8 : ¬ (l.getD k 0 = 74) := fun h9 => c_8 ((eq_nI (p := l.getD k 0) (n := 74) (by omega) (by decide)).mpr h9)
    refine ps_st (S' := (12, [(0, .ref m0), (1, .int (nI s)), (2, .int (nI k))], [.ref m0], M)) rfl rfl rfl ?_
    refine ps_st (S' := (13, [(0, .ref m0), (1, .int (nI s)), (2, .int (nI k))], [.int (nI s), .ref m0], M)) rfl rfl rfl ?_
    refine ps_st (S' := (14, [(0, .ref m0), (1, .int (nI s)), (2, .int (nI k))], [.int (nI k), .int (nI s), .ref m0], M)) rfl rfl rfl ?_
    refine pl_call (a := [.ref m0, .int (nI s), .int (nI k)]) (rest := []) rfl rfl rfl (rd_at (tx := tx) (cN := cN) (A := A) (s := s) (l := l) (k := k) hR hY (hs) (by omega)) (fun v4 M5 q6 => ?_)
    obtain ⟨rfl, rfl⟩ := q6
    show pl _ _ _ (17, [(0, .ref m0), (1, .int (nI s)), (2, .int (nI k))], [.int (nI (l.getD k 0))], M) _
    have hc_14 := hY.ch hs (k := k) (by omega)
    refine ps_st (S' := (19, [(0, .ref m0), (1, .int (nI s)), (2, .int (nI k))], [.int 68, .int (nI (l.getD k 0))], M)) rfl rfl rfl ?_
    refine ps_if2 (S1 := (26, [(0, .ref m0), (1, .int (nI s)), (2, .int (nI k))], [], M)) (S2 := (22, [], [], M)) rfl rfl rfl (fun c_19 => ?_) (fun c_19 => ?_)
    · have c_19 : ¬ (nI (l.getD k 0)) = 68 := of_decide_eq_true c_19
      have n_19 : ¬ (l.getD k 0 = 68) := fun h9 => c_19 ((eq_nI (p := l.getD k 0) (n := 68) (by omega) (by decide)).mpr h9)
      refine ps_st (S' := (27, [], [.int 0], M)) rfl rfl rfl ?_
      exact ps_ret rfl rfl (⟨congrArg (fun x => some (Value.int (nI x))) (show 0 = wdN (l.getD k 0) from by
          unfold wdN
          rw [if_neg (by omega)]), rfl⟩)
    · have c_19 : ¬ (¬ (nI (l.getD k 0)) = 68) := of_decide_eq_false c_19
      have n_19 : l.getD k 0 = 68 := (eq_nI (p := l.getD k 0) (n := 68) (by omega) (by decide)).mp (Decidable.not_not.mp c_19)
      refine ps_st (S' := (23, [], [.int 1], M)) rfl rfl rfl ?_
      refine ps_st (S' := (27, [], [.int 1], M)) rfl rfl rfl ?_
      exact ps_ret rfl rfl (⟨congrArg (fun x => some (Value.int (nI x))) (show 1 = wdN (l.getD k 0) from by
          unfold wdN
          rw [if_pos (by omega)]), rfl⟩)
set_option maxHeartbeats 1000000 in
theorem rd_placesk {g : xe_G} {m0 : Nat} {q : Nat → Nat} {z : Nat × Nat} {I : rI} {R : rR} {M : mi_H} {kn k : Int32} (hR : RS g m0 q z I R M) (hi18 : I 18 = some kn)  (hk : kn < 0) : pt (mT g) 232 [.ref m0, .int k] M (fun v M' => (∃  (I' : rI) (R' : rR), v = some (.int (-1)) ∧ RS g m0 q z I' R' M' ∧ eqI [0] I I' ∧ eqR [] R R' ∧ I' 0 = some 0)) := by
  refine pt_in (b := mb_232 g) rfl (fun kf => ?_)
  show pl (mT g) kf (mb_232 g).2 (0, [(0, .ref m0), (1, .int k)], [], M) _
  have hEI : eqI [0] I I := eqI.rf
  have hER : eqR [] R R := eqR.rf
  refine ps_st (S' := (1, [(0, .ref m0), (1, .int k)], [.ref m0], M)) rfl rfl rfl ?_
  refine ps_st (S' := (2, [(0, .ref m0), (1, .int k)], [.int 0, .ref m0], M)) rfl rfl rfl ?_
  refine pr_put (j := 0) rfl hR rfl (fun M1 I2 hR3 hi4 hI5 => ?_)
  have hi6 := (hI5 18 (by decide)).trans hi18
  have hEI7 := hEI.put hI5 (by decide)
  show pl _ _ _ (5, [(0, .ref m0), (1, .int k)], [], M1) _
  refine ps_st (S' := (6, [(0, .ref m0), (1, .int k)], [.ref m0], M1)) rfl rfl rfl ?_
  refine pr_int (j := 18) (S' := (9, [(0, .ref m0), (1, .int k)], [.int kn], M1)) rfl hR3 rfl hi6 rfl ?_
  refine ps_if (S1 := (21, [], [], M1)) (S2 := (12, [(0, .ref m0), (1, .int k)], [], M1)) rfl rfl rfl (fun c_9 => ?_) (fun c_9 => ?_)
  rotate_left
  · exact absurd (hk) (of_decide_eq_false c_9)
  refine ps_st (S' := (22, [], [.int (-1)], M1)) rfl rfl rfl ?_
  exact ps_ret rfl rfl (⟨I2, R, rfl, hR3, hEI7, hER, hi4⟩)
set_option maxHeartbeats 1000000 in
theorem rd_placesT {g : xe_G} {m0 : Nat} {q : Nat → Nat} {z : Nat × Nat} {I : rI} {R : rR} {M : mi_H} {n : Nat} {f : Nat → Int32} {tx : List (List Nat)} {cN : Nat} {A : Nat → Nat} {N mj : Nat} {E : List (Nat × Nat)} {n2 : Nat} {k : Int32} (hR : RS g m0 q z I R M) (hi18 : I 18 = some (nI n2)) (hi51 : I 51 = some 0) (hi52 : I 52 = some (nI N)) (hi53 : I 53 = some (nI mj)) (hF : FK n f I R) (hY : SYT tx cN A I R) (hP : RPV f n E tx N I R) (hEP : EP f n E) (hN : N < 65536) (hmj : mj < 65536) (hn2 : n2 ≤ 65540) (h0 : tg f E 0 = 0) (ht : ¬ tg f E k.toNatClampNeg = 1) : pt (mT g) 232 [.ref m0, .int k] M (fun v M' => (∃  (I' : rI) (R' : rR), v = some (.int (-1)) ∧ RS g m0 q z I' R' M' ∧ eqI [0] I I' ∧ eqR [] R R' ∧ I' 0 = some 0)) := by
  refine pt_in (b := mb_232 g) rfl (fun kf => ?_)
  show pl (mT g) kf (mb_232 g).2 (0, [(0, .ref m0), (1, .int k)], [], M) _
  have hEI : eqI [0] I I := eqI.rf
  have hER : eqR [] R R := eqR.rf
  refine ps_st (S' := (1, [(0, .ref m0), (1, .int k)], [.ref m0], M)) rfl rfl rfl ?_
  refine ps_st (S' := (2, [(0, .ref m0), (1, .int k)], [.int 0, .ref m0], M)) rfl rfl rfl ?_
  refine pr_put (j := 0) rfl hR rfl (fun M1 I2 hR3 hi4 hI5 => ?_)
  have hi6 := (hI5 18 (by decide)).trans hi18
  have hi7 := (hI5 51 (by decide)).trans hi51
  have hi8 := (hI5 52 (by decide)).trans hi52
  have hi9 := (hI5 53 (by decide)).trans hi53
  have hF_10 := hF.mono (pIx hI5 (by decide)) (fun _ _ => rfl)
  have hY_11 := hY.mono (pIx hI5 (by decide)) (fun _ _ => rfl)
  have hP_12 := hP.mono (pIx hI5 (by decide)) (fun _ _ => rfl)
  have hEI13 := hEI.put hI5 (by decide)
  show pl _ _ _ (5, [(0, .ref m0), (1, .int k)], [], M1) _
  refine ps_st (S' := (6, [(0, .ref m0), (1, .int k)], [.ref m0], M1)) rfl rfl rfl ?_
  refine pr_int (j := 18) (S' := (9, [(0, .ref m0), (1, .int k)], [.int (nI n2)], M1)) rfl hR3 rfl hi6 rfl ?_
  refine ps_if (S1 := (21, [], [], M1)) (S2 := (12, [(0, .ref m0), (1, .int k)], [], M1)) rfl rfl rfl (fun c_9 => ?_) (fun c_9 => ?_)
  · exact absurd (of_decide_eq_true c_9) (show ¬ ((nI n2) < 0) from fun h9 => absurd ((lt_nI (p := n2) (n := 0) (by omega) (by decide)).mp h9) (by omega))
  refine ps_st (S' := (13, [(0, .ref m0), (1, .int k)], [.ref m0], M1)) rfl rfl rfl ?_
  refine ps_st (S' := (14, [(0, .ref m0), (1, .int k)], [.int k, .ref m0], M1)) rfl rfl rfl ?_
  refine pl_call (a := [.ref m0, .int k]) (rest := []) rfl rfl rfl (rd_tagR (n := n) (f := f) (tx := tx) (cN := cN) (A := A) (N := N) (mj := mj) (E := E) (k := k) hR3 hi7 hi8 hi9 hF_10 hY_11 hP_12 (hEP) (hN) (hmj) (h0)) (fun v14 M15 q16 => ?_)
  obtain ⟨rfl, rfl⟩ := q16
  show pl _ _ _ (17, [(0, .ref m0), (1, .int k)], [.int (nI (tg f E k.toNatClampNeg))], M1) _
  have htg9 := tg_lt f E k.toNatClampNeg
  refine ps_st (S' := (18, [(0, .ref m0), (1, .int k)], [.int 1, .int (nI (tg f E k.toNatClampNeg))], M1)) rfl rfl rfl ?_
  refine ps_if2 (S1 := (23, [(0, .ref m0), (1, .int k)], [], M1)) (S2 := (21, [], [], M1)) rfl rfl rfl (fun c_18 => ?_) (fun c_18 => ?_)
  · exact absurd (of_decide_eq_true c_18) (fun h9 => ht ((eq_nI (p := tg f E k.toNatClampNeg) (n := 1) (by omega) (by decide)).mp h9))
  refine ps_st (S' := (22, [], [.int (-1)], M1)) rfl rfl rfl ?_
  exact ps_ret rfl rfl (⟨I2, R, rfl, hR3, hEI13, hER, hi4⟩)
set_option maxHeartbeats 1000000 in
theorem rd_placesN {g : xe_G} {m0 : Nat} {q : Nat → Nat} {z : Nat × Nat} {I : rI} {R : rR} {M : mi_H} {n : Nat} {f : Nat → Int32} {tx : List (List Nat)} {cN : Nat} {A : Nat → Nat} {N mj : Nat} {E : List (Nat × Nat)} {n2 : Nat} {j : Nat} (hR : RS g m0 q z I R M) (hi18 : I 18 = some (nI n2)) (hi51 : I 51 = some 0) (hi52 : I 52 = some (nI N)) (hi53 : I 53 = some (nI mj)) (hF : FK n f I R) (hY : SYT tx cN A I R) (hP : RPV f n E tx N I R) (hEP : EP f n E) (hN : N < 65536) (hmj : mj < 65536) (hn2 : n2 ≤ 65540) (hj : j < 65536) (h1t : tg f E j = 1) (hfl : fldN (tX f n E j) = 0) (hm : mthN (tX f n E j) = 0) : pt (mT g) 232 [.ref m0, .int (nI j)] M (fun v M' => (∃  (I' : rI) (R' : rR), v = some (.int (plT (tX f n E j))) ∧ RS g m0 q z I' R' M' ∧ eqI [0] I I' ∧ eqR [] R R' ∧ I' 0 = some 0)) := by
  refine pt_in (b := mb_232 g) rfl (fun kf => ?_)
  show pl (mT g) kf (mb_232 g).2 (0, [(0, .ref m0), (1, .int (nI j))], [], M) _
  have hEI : eqI [0] I I := eqI.rf
  have hER : eqR [] R R := eqR.rf
  have hn := hF.1
  have hlx := tx_len f n E j
  refine ps_st (S' := (1, [(0, .ref m0), (1, .int (nI j))], [.ref m0], M)) rfl rfl rfl ?_
  refine ps_st (S' := (2, [(0, .ref m0), (1, .int (nI j))], [.int 0, .ref m0], M)) rfl rfl rfl ?_
  refine pr_put (j := 0) rfl hR rfl (fun M1 I2 hR3 hi4 hI5 => ?_)
  have hi6 := (hI5 18 (by decide)).trans hi18
  have hi7 := (hI5 51 (by decide)).trans hi51
  have hi8 := (hI5 52 (by decide)).trans hi52
  have hi9 := (hI5 53 (by decide)).trans hi53
  have hF_10 := hF.mono (pIx hI5 (by decide)) (fun _ _ => rfl)
  have hY_11 := hY.mono (pIx hI5 (by decide)) (fun _ _ => rfl)
  have hP_12 := hP.mono (pIx hI5 (by decide)) (fun _ _ => rfl)
  have hEI13 := hEI.put hI5 (by decide)
  show pl _ _ _ (5, [(0, .ref m0), (1, .int (nI j))], [], M1) _
  refine ps_st (S' := (6, [(0, .ref m0), (1, .int (nI j))], [.ref m0], M1)) rfl rfl rfl ?_
  refine pr_int (j := 18) (S' := (9, [(0, .ref m0), (1, .int (nI j))], [.int (nI n2)], M1)) rfl hR3 rfl hi6 rfl ?_
  refine ps_if (S1 := (21, [], [], M1)) (S2 := (12, [(0, .ref m0), (1, .int (nI j))], [], M1)) rfl rfl rfl (fun c_9 => ?_) (fun c_9 => ?_)
  · exact absurd (of_decide_eq_true c_9) (show ¬ ((nI n2) < 0) from fun h9 => absurd ((lt_nI (p := n2) (n := 0) (by omega) (by decide)).mp h9) (by omega))
  refine ps_st (S' := (13, [(0, .ref m0), (1, .int (nI j))], [.ref m0], M1)) rfl rfl rfl ?_
  refine ps_st (S' := (14, [(0, .ref m0), (1, .int (nI j))], [.int (nI j), .ref m0], M1)) rfl rfl rfl ?_
  refine pl_call (a := [.ref m0, .int (nI j)]) (rest := []) rfl rfl rfl (rd_tag (n := n) (f := f) (tx := tx) (cN := cN) (A := A) (N := N) (mj := mj) (E := E) (k := j) hR3 hi7 hi8 hi9 hF_10 hY_11 hP_12 (hEP) (hN) (hmj) (by omega)) (fun v14 M15 q16 => ?_)
  obtain ⟨rfl, rfl⟩ := q16
  show pl _ _ _ (17, [(0, .ref m0), (1, .int (nI j))], [.int (nI (tg f E j))], M1) _
  have htg_14 := tg_lt f E j
  refine ps_st (S' := (18, [(0, .ref m0), (1, .int (nI j))], [.int 1, .int (nI (tg f E j))], M1)) rfl rfl rfl ?_
  refine ps_if2 (S1 := (23, [(0, .ref m0), (1, .int (nI j))], [], M1)) (S2 := (21, [], [], M1)) rfl rfl rfl (fun c_18 => ?_) (fun c_18 => ?_)
  rotate_left
  · exact absurd (by rw [h1t]; rfl) (of_decide_eq_false c_18)
  refine ps_st (S' := (24, [(0, .ref m0), (1, .int (nI j))], [.ref m0], M1)) rfl rfl rfl ?_
  refine ps_st (S' := (25, [(0, .ref m0), (1, .int (nI j))], [.int (nI j), .ref m0], M1)) rfl rfl rfl ?_
  refine pl_call (a := [.ref m0, .int (nI j)]) (rest := []) rfl rfl rfl (rd_symOf (n := n) (f := f) (tx := tx) (cN := cN) (A := A) (N := N) (mj := mj) (E := E) (k := j) hR3 hi7 hi8 hi9 hF_10 hY_11 hP_12 (hEP) (hN) (hmj) (by omega)) (fun v17 M18 q19 => ?_)
  obtain ⟨s20, q25_s, rfl, rfl⟩ := q19
  show pl _ _ _ (28, [(0, .ref m0), (1, .int (nI j))], [.int (nI s20)], M1) _
  have hsl_25 := q25_s.1
  have htl_25 := hY_11.1.2.2.1
  refine ps_st (S' := (29, [(2, .int (nI s20)), (0, .ref m0), (1, .int (nI j))], [], M1)) rfl rfl rfl ?_
  refine ps_st (S' := (30, [(2, .int (nI s20)), (0, .ref m0), (1, .int (nI j))], [.ref m0], M1)) rfl rfl rfl ?_
  refine ps_st (S' := (31, [(2, .int (nI s20)), (0, .ref m0), (1, .int (nI j))], [.int (nI s20), .ref m0], M1)) rfl rfl rfl ?_
  refine pl_call (a := [.ref m0, .int (nI s20)]) (rest := []) rfl rfl rfl (rd_isField (tx := tx) (cN := cN) (A := A) (s := s20) (l := (tX f n E j)) hR3 hY_11 (q25_s)) (fun v21 M22 q23 => ?_)
  obtain ⟨rfl, rfl⟩ := q23
  show pl _ _ _ (34, [(2, .int (nI s20)), (0, .ref m0), (1, .int (nI j))], [.int (nI (fldN (tX f n E j)))], M1) _
  refine ps_if (S1 := (52, [(2, .int (nI s20)), (0, .ref m0), (1, .int (nI j))], [], M1)) (S2 := (37, [(2, .int (nI s20)), (0, .ref m0), (1, .int (nI j))], [], M1)) rfl rfl rfl (fun c_34 => ?_) (fun c_34 => ?_)
  rotate_left
  · exact absurd ((eq_nI (p := fldN (tX f n E j)) (n := 0) (Nat.lt_trans (le1_fld _) (by decide)) (by decide)).mpr (by omega)) (of_decide_eq_false c_34)
  refine ps_st (S' := (53, [(2, .int (nI s20)), (0, .ref m0), (1, .int (nI j))], [.ref m0], M1)) rfl rfl rfl ?_
  refine ps_st (S' := (54, [(2, .int (nI s20)), (0, .ref m0), (1, .int (nI j))], [.int (nI s20), .ref m0], M1)) rfl rfl rfl ?_
  refine pl_call (a := [.ref m0, .int (nI s20)]) (rest := []) rfl rfl rfl (rd_isMethod (tx := tx) (cN := cN) (A := A) (s := s20) (l := (tX f n E j)) hR3 hY_11 (q25_s)) (fun v24 M25 q26 => ?_)
  obtain ⟨rfl, rfl⟩ := q26
  show pl _ _ _ (57, [(2, .int (nI s20)), (0, .ref m0), (1, .int (nI j))], [.int (nI (mthN (tX f n E j)))], M1) _
  refine ps_if (S1 := (62, [(2, .int (nI s20)), (0, .ref m0), (1, .int (nI j))], [], M1)) (S2 := (60, [(2, .int (nI s20)), (0, .ref m0), (1, .int (nI j))], [], M1)) rfl rfl rfl (fun c_57 => ?_) (fun c_57 => ?_)
  · exact absurd (of_decide_eq_true c_57) (fun h9 => h9 ((eq_nI (p := mthN (tX f n E j)) (n := 0) (Nat.lt_trans (le1_mth _) (by decide)) (by decide)).mpr (by omega)))
  refine ps_st (S' := (61, [(2, .int (nI s20)), (0, .ref m0), (1, .int (nI j))], [.int (-1)], M1)) rfl rfl rfl ?_
  exact ps_ret rfl rfl (⟨I2, R, congrArg (fun x => some (Value.int x)) (plT_n hfl hm).symm, hR3, hEI13, hER, hi4⟩)
set_option maxHeartbeats 1000000 in
theorem rd_placesF {g : xe_G} {m0 : Nat} {q : Nat → Nat} {z : Nat × Nat} {I : rI} {R : rR} {M : mi_H} {n : Nat} {f : Nat → Int32} {tx : List (List Nat)} {cN : Nat} {A : Nat → Nat} {N mj : Nat} {E : List (Nat × Nat)} {n2 : Nat} {j : Nat} (hR : RS g m0 q z I R M) (hi18 : I 18 = some (nI n2)) (hi51 : I 51 = some 0) (hi52 : I 52 = some (nI N)) (hi53 : I 53 = some (nI mj)) (hF : FK n f I R) (hY : SYT tx cN A I R) (hP : RPV f n E tx N I R) (hEP : EP f n E) (hN : N < 65536) (hmj : mj < 65536) (hn2 : n2 ≤ 65540) (hj : j < 65536) (h1t : tg f E j = 1) (hfl : ¬ fldN (tX f n E j) = 0) : pt (mT g) 232 [.ref m0, .int (nI j)] M (fun v M' => (∃  (I' : rI) (R' : rR), v = some (.int (plT (tX f n E j))) ∧ RS g m0 q z I' R' M' ∧ eqI [0] I I' ∧ eqR [] R R' ∧ I' 0 = some 0)) := by
  refine pt_in (b := mb_232 g) rfl (fun kf => ?_)
  show pl (mT g) kf (mb_232 g).2 (0, [(0, .ref m0), (1, .int (nI j))], [], M) _
  have hEI : eqI [0] I I := eqI.rf
  have hER : eqR [] R R := eqR.rf
  have hn := hF.1
  have hlx := tx_len f n E j
  have hf9 := (fld_sh hfl).2
  refine ps_st (S' := (1, [(0, .ref m0), (1, .int (nI j))], [.ref m0], M)) rfl rfl rfl ?_
  refine ps_st (S' := (2, [(0, .ref m0), (1, .int (nI j))], [.int 0, .ref m0], M)) rfl rfl rfl ?_
  refine pr_put (j := 0) rfl hR rfl (fun M1 I2 hR3 hi4 hI5 => ?_)
  have hi6 := (hI5 18 (by decide)).trans hi18
  have hi7 := (hI5 51 (by decide)).trans hi51
  have hi8 := (hI5 52 (by decide)).trans hi52
  have hi9 := (hI5 53 (by decide)).trans hi53
  have hF_10 := hF.mono (pIx hI5 (by decide)) (fun _ _ => rfl)
  have hY_11 := hY.mono (pIx hI5 (by decide)) (fun _ _ => rfl)
  have hP_12 := hP.mono (pIx hI5 (by decide)) (fun _ _ => rfl)
  have hEI13 := hEI.put hI5 (by decide)
  show pl _ _ _ (5, [(0, .ref m0), (1, .int (nI j))], [], M1) _
  refine ps_st (S' := (6, [(0, .ref m0), (1, .int (nI j))], [.ref m0], M1)) rfl rfl rfl ?_
  refine pr_int (j := 18) (S' := (9, [(0, .ref m0), (1, .int (nI j))], [.int (nI n2)], M1)) rfl hR3 rfl hi6 rfl ?_
  refine ps_if (S1 := (21, [], [], M1)) (S2 := (12, [(0, .ref m0), (1, .int (nI j))], [], M1)) rfl rfl rfl (fun c_9 => ?_) (fun c_9 => ?_)
  · exact absurd (of_decide_eq_true c_9) (show ¬ ((nI n2) < 0) from fun h9 => absurd ((lt_nI (p := n2) (n := 0) (by omega) (by decide)).mp h9) (by omega))
  refine ps_st (S' := (13, [(0, .ref m0), (1, .int (nI j))], [.ref m0], M1)) rfl rfl rfl ?_
  refine ps_st (S' := (14, [(0, .ref m0), (1, .int (nI j))], [.int (nI j), .ref m0], M1)) rfl rfl rfl ?_
  refine pl_call (a := [.ref m0, .int (nI j)]) (rest := []) rfl rfl rfl (rd_tag (n := n) (f := f) (tx := tx) (cN := cN) (A := A) (N := N) (mj := mj) (E := E) (k := j) hR3 hi7 hi8 hi9 hF_10 hY_11 hP_12 (hEP) (hN) (hmj) (by omega)) (fun v14 M15 q16 => ?_)
  obtain ⟨rfl, rfl⟩ := q16
  show pl _ _ _ (17, [(0, .ref m0), (1, .int (nI j))], [.int (nI (tg f E j))], M1) _
  have htg_14 := tg_lt f E j
  refine ps_st (S' := (18, [(0, .ref m0), (1, .int (nI j))], [.int 1, .int (nI (tg f E j))], M1)) rfl rfl rfl ?_
  refine ps_if2 (S1 := (23, [(0, .ref m0), (1, .int (nI j))], [], M1)) (S2 := (21, [], [], M1)) rfl rfl rfl (fun c_18 => ?_) (fun c_18 => ?_)
  rotate_left
  · exact absurd (by rw [h1t]; rfl) (of_decide_eq_false c_18)
  refine ps_st (S' := (24, [(0, .ref m0), (1, .int (nI j))], [.ref m0], M1)) rfl rfl rfl ?_
  refine ps_st (S' := (25, [(0, .ref m0), (1, .int (nI j))], [.int (nI j), .ref m0], M1)) rfl rfl rfl ?_
  refine pl_call (a := [.ref m0, .int (nI j)]) (rest := []) rfl rfl rfl (rd_symOf (n := n) (f := f) (tx := tx) (cN := cN) (A := A) (N := N) (mj := mj) (E := E) (k := j) hR3 hi7 hi8 hi9 hF_10 hY_11 hP_12 (hEP) (hN) (hmj) (by omega)) (fun v17 M18 q19 => ?_)
  obtain ⟨s20, q25_s, rfl, rfl⟩ := q19
  show pl _ _ _ (28, [(0, .ref m0), (1, .int (nI j))], [.int (nI s20)], M1) _
  have hsl_25 := q25_s.1
  have htl_25 := hY_11.1.2.2.1
  refine ps_st (S' := (29, [(2, .int (nI s20)), (0, .ref m0), (1, .int (nI j))], [], M1)) rfl rfl rfl ?_
  refine ps_st (S' := (30, [(2, .int (nI s20)), (0, .ref m0), (1, .int (nI j))], [.ref m0], M1)) rfl rfl rfl ?_
  refine ps_st (S' := (31, [(2, .int (nI s20)), (0, .ref m0), (1, .int (nI j))], [.int (nI s20), .ref m0], M1)) rfl rfl rfl ?_
  refine pl_call (a := [.ref m0, .int (nI s20)]) (rest := []) rfl rfl rfl (rd_isField (tx := tx) (cN := cN) (A := A) (s := s20) (l := (tX f n E j)) hR3 hY_11 (q25_s)) (fun v21 M22 q23 => ?_)
  obtain ⟨rfl, rfl⟩ := q23
  show pl _ _ _ (34, [(2, .int (nI s20)), (0, .ref m0), (1, .int (nI j))], [.int (nI (fldN (tX f n E j)))], M1) _
  refine ps_if (S1 := (52, [(2, .int (nI s20)), (0, .ref m0), (1, .int (nI j))], [], M1)) (S2 := (37, [(2, .int (nI s20)), (0, .ref m0), (1, .int (nI j))], [], M1)) rfl rfl rfl (fun c_34 => ?_) (fun c_34 => ?_)
  · exact absurd (of_decide_eq_true c_34) (show ¬ ((nI (fldN (tX f n E j))) = 0) from fun h9 => absurd ((eq_nI (p := fldN (tX f n E j)) (n := 0) (Nat.lt_trans (le1_fld _) (by decide)) (by decide)).mp h9) (by omega))
  refine ps_st (S' := (38, [(2, .int (nI s20)), (0, .ref m0), (1, .int (nI j))], [.ref m0], M1)) rfl rfl rfl ?_
  refine ps_st (S' := (39, [(2, .int (nI s20)), (0, .ref m0), (1, .int (nI j))], [.int (nI s20), .ref m0], M1)) rfl rfl rfl ?_
  refine ps_st (S' := (40, [(2, .int (nI s20)), (0, .ref m0), (1, .int (nI j))], [.int 0, .int (nI s20), .ref m0], M1)) rfl rfl rfl ?_
  refine pl_call (a := [.ref m0, .int (nI s20), .int 0]) (rest := []) rfl rfl rfl (rd_wide (tx := tx) (cN := cN) (A := A) (s := s20) (l := (tX f n E j)) (k := 0) hR3 hY_11 (q25_s) (by omega)) (fun v24 M25 q26 => ?_)
  obtain ⟨rfl, rfl⟩ := q26
  show pl _ _ _ (43, [(2, .int (nI s20)), (0, .ref m0), (1, .int (nI j))], [.int (nI (wdN ((tX f n E j).getD 0 0)))], M1) _
  have hw_40 := le1_wd ((tX f n E j).getD 0 0)
  refine ps_if (S1 := (50, [(2, .int (nI s20)), (0, .ref m0), (1, .int (nI j))], [], M1)) (S2 := (46, [(2, .int (nI s20)), (0, .ref m0), (1, .int (nI j))], [], M1)) rfl rfl rfl (fun c_43 => ?_) (fun c_43 => ?_)
  · have c_43 : (nI (wdN ((tX f n E j).getD 0 0))) = 0 := of_decide_eq_true c_43
    have n_43 : wdN ((tX f n E j).getD 0 0) = 0 := (eq_nI (p := wdN ((tX f n E j).getD 0 0)) (n := 0) (Nat.lt_trans (le1_wd _) (by decide)) (by decide)).mp c_43
    refine ps_st (S' := (51, [], [.int 1], M1)) rfl rfl rfl ?_
    exact ps_ret rfl rfl (⟨I2, R, congrArg (fun x => some (Value.int x)) (plT_f (t := 1) hfl (by rw [pW_wd]; omega) rfl), hR3, hEI13, hER, hi4⟩)
  · have c_43 : ¬ ((nI (wdN ((tX f n E j).getD 0 0))) = 0) := of_decide_eq_false c_43
    have n_43 : ¬ (wdN ((tX f n E j).getD 0 0) = 0) := fun h9 => c_43 ((eq_nI (p := wdN ((tX f n E j).getD 0 0)) (n := 0) (Nat.lt_trans (le1_wd _) (by decide)) (by decide)).mpr h9)
    refine ps_st (S' := (47, [(2, .int (nI s20)), (0, .ref m0), (1, .int (nI j))], [.int 2], M1)) rfl rfl rfl ?_
    refine ps_st (S' := (51, [], [.int 2], M1)) rfl rfl rfl ?_
    exact ps_ret rfl rfl (⟨I2, R, congrArg (fun x => some (Value.int x)) (plT_f (t := 2) hfl (by rw [pW_wd]; omega) rfl), hR3, hEI13, hER, hi4⟩)
set_option maxHeartbeats 1000000 in
theorem rd_placesM {g : xe_G} {m0 : Nat} {q : Nat → Nat} {z : Nat × Nat} {I : rI} {R : rR} {M : mi_H} {n : Nat} {f : Nat → Int32} {tx : List (List Nat)} {cN : Nat} {A : Nat → Nat} {N mj : Nat} {E : List (Nat × Nat)} {n2 : Nat} {j k0 W : Nat} (hR : RS g m0 q z I R M) (hi18 : I 18 = some (nI n2)) (hi51 : I 51 = some 0) (hi52 : I 52 = some (nI N)) (hi53 : I 53 = some (nI mj)) (hF : FK n f I R) (hY : SYT tx cN A I R) (hP : RPV f n E tx N I R) (hEP : EP f n E) (hN : N < 65536) (hmj : mj < 65536) (hn2 : n2 ≤ 65540) (hj : j < 65536) (h1t : tg f E j = 1) (hfl : fldN (tX f n E j) = 0) (hm : ¬ mthN (tX f n E j) = 0) (hpl : s_pl (fun i => (tX f n E j).getD i 0) (tX f n E j).length ((tX f n E j).length - 1) 1 0 = some (k0, W)) (hk0 : k0 + 1 < (tX f n E j).length ∧ 1 ≤ k0 ∧ (tX f n E j).getD k0 0 = 41) (hW : W ≤ 255) : pt (mT g) 232 [.ref m0, .int (nI j)] M (fun v M' => (∃  (I' : rI) (R' : rR), v = some (.int (plT (tX f n E j))) ∧ RS g m0 q z I' R' M' ∧ eqI [0] I I' ∧ eqR [] R R' ∧ I' 0 = some 0)) := by
  refine pt_in (b := mb_232 g) rfl (fun kf => ?_)
  show pl (mT g) kf (mb_232 g).2 (0, [(0, .ref m0), (1, .int (nI j))], [], M) _
  have hEI : eqI [0] I I := eqI.rf
  have hER : eqR [] R R := eqR.rf
  have hn := hF.1
  have hlx := tx_len f n E j
  have LL : ∀ (kf : Nat), (∀ (s r w : Nat) (M1 : mi_H) (I1 : rI) (R1 : rR), (RS g m0 q z I1 R1 M1) → (eqI [0] I I1) → (eqR [] R R1) → (I1 0 = some 0) → (SYT tx cN A I1 R1) → (s < tx.length ∧ tx.getD s [] = tX f n E j) → (1 ≤ r ∧ r ≤ (tX f n E j).length) → (s_pl (fun i => (tX f n E j).getD i 0) (tX f n E j).length ((tX f n E j).length - r) r w = some (k0, W)) →  pl (mT g) kf (mb_232 g).2 (73, [(0, .ref m0), (2, .int (nI s)), (3, .int (nI ((tX f n E j).length - 1))), (4, .int (nI r))], [], M1) (fun v M' => (∃  (I' : rI) (R' : rR), v = some (.int (plT (tX f n E j))) ∧ RS g m0 q z I' R' M' ∧ eqI [0] I I' ∧ eqR [] R R' ∧ I' 0 = some 0))) := by
    intro kf
    induction kf with
    | zero => exact (by intros; exact pl_0)
    | succ kf ih =>
      intro s r w M1 I1 R1 hR1 hEI1 hER1 hl0 hY1 hs hr hp
      have hlt : r < (tX f n E j).length := Nat.not_le.mp (fun h9 => by rw [s_pl_0 (by omega)] at hp; cases hp; omega)
      have hts := hY1.1.2.2
      refine ps_st1 (S' := (74, [(0, .ref m0), (2, .int (nI s)), (3, .int (nI ((tX f n E j).length - 1))), (4, .int (nI r))], [.ref m0], M1)) rfl rfl rfl ?_
      refine ps_st (S' := (75, [(0, .ref m0), (2, .int (nI s)), (3, .int (nI ((tX f n E j).length - 1))), (4, .int (nI r))], [.int (nI s), .ref m0], M1)) rfl rfl rfl ?_
      refine ps_st (S' := (77, [(0, .ref m0), (2, .int (nI s)), (3, .int (nI ((tX f n E j).length - 1))), (4, .int (nI r))], [.int (nI r), .int (nI s), .ref m0], M1)) rfl rfl rfl ?_
      refine pl_call (a := [.ref m0, .int (nI s), .int (nI r)]) (rest := []) rfl rfl rfl (rd_at (tx := tx) (cN := cN) (A := A) (s := s) (l := (tX f n E j)) (k := r) hR1 hY1 (hs) (by omega)) (fun v1 M2 q3 => ?_)
      obtain ⟨rfl, rfl⟩ := q3
      show pl _ _ _ (80, [(0, .ref m0), (2, .int (nI s)), (3, .int (nI ((tX f n E j).length - 1))), (4, .int (nI r))], [.int (nI ((tX f n E j).getD r 0))], M1) _
      have hc_77 := hY1.ch hs (k := r) (by omega)
      refine ps_st (S' := (82, [(0, .ref m0), (2, .int (nI s)), (3, .int (nI ((tX f n E j).length - 1))), (4, .int (nI r))], [.int 41, .int (nI ((tX f n E j).getD r 0))], M1)) rfl rfl rfl ?_
      refine ps_if2 (S1 := (97, [(0, .ref m0), (2, .int (nI s)), (3, .int (nI ((tX f n E j).length - 1))), (4, .int (nI r))], [], M1)) (S2 := (85, [(0, .ref m0), (2, .int (nI s)), (3, .int (nI ((tX f n E j).length - 1))), (4, .int (nI r))], [], M1)) rfl rfl rfl (fun c_82 => ?_) (fun c_82 => ?_)
      · have c_82 : (nI ((tX f n E j).getD r 0)) = 41 := of_decide_eq_true c_82
        have n_82 : (tX f n E j).getD r 0 = 41 := (eq_nI (p := (tX f n E j).getD r 0) (n := 41) (Nat.lt_trans (tx_ch _ _ _ _ _) (by decide)) (by decide)).mp c_82
        have er9 : r = k0 ∧ w = W := by rw [s_pl_0 (by omega)] at hp; cases hp; exact ⟨rfl, rfl⟩
        refine ps_st (S' := (98, [(0, .ref m0), (2, .int (nI s)), (3, .int (nI ((tX f n E j).length - 1))), (4, .int (nI r))], [.ref m0], M1)) rfl rfl rfl ?_
        refine ps_st (S' := (99, [(0, .ref m0), (2, .int (nI s)), (3, .int (nI ((tX f n E j).length - 1))), (4, .int (nI r))], [.int (nI s), .ref m0], M1)) rfl rfl rfl ?_
        refine pl_call (a := [.ref m0, .int (nI s)]) (rest := []) rfl rfl rfl (rd_places0 (tx := tx) (cN := cN) (A := A) (s := s) (l := (tX f n E j)) (k0 := k0) (W := W) hR1 hY1 (hs) (hpl) (⟨by omega, hk0.2.2⟩)) (fun v4 M5 q6 => ?_)
        obtain ⟨rfl, rfl⟩ := q6
        show pl _ _ _ (102, [(0, .ref m0), (2, .int (nI s)), (3, .int (nI ((tX f n E j).length - 1))), (4, .int (nI r))], [.int (nI (W))], M1) _
        refine ps_st (S' := (105, [(0, .ref m0), (2, .int (nI s)), (3, .int (nI ((tX f n E j).length - 1))), (4, .int (nI r))], [.int 1024, .int (nI (W))], M1)) rfl rfl rfl ?_
        refine ps_st (S' := (106, [(0, .ref m0), (2, .int (nI s)), (3, .int (nI ((tX f n E j).length - 1))), (4, .int (nI r))], [.ref m0, .int 1024, .int (nI (W))], M1)) rfl rfl rfl ?_
        refine ps_st (S' := (107, [(0, .ref m0), (2, .int (nI s)), (3, .int (nI ((tX f n E j).length - 1))), (4, .int (nI r))], [.int (nI s), .ref m0, .int 1024, .int (nI (W))], M1)) rfl rfl rfl ?_
        refine ps_st (S' := (108, [(0, .ref m0), (2, .int (nI s)), (3, .int (nI ((tX f n E j).length - 1))), (4, .int (nI r))], [.int (nI ((tX f n E j).length - 1)), .int (nI s), .ref m0, .int 1024, .int (nI (W))], M1)) rfl rfl rfl ?_
        refine pl_call (a := [.ref m0, .int (nI s), .int (nI ((tX f n E j).length - 1))]) (rest := [.int 1024, .int (nI (W))]) rfl rfl rfl (rd_at (tx := tx) (cN := cN) (A := A) (s := s) (l := (tX f n E j)) (k := ((tX f n E j).length - 1)) hR1 hY1 (hs) (by omega)) (fun v7 M8 q9 => ?_)
        obtain ⟨rfl, rfl⟩ := q9
        show pl _ _ _ (111, [(0, .ref m0), (2, .int (nI s)), (3, .int (nI ((tX f n E j).length - 1))), (4, .int (nI r))], [.int (nI ((tX f n E j).getD ((tX f n E j).length - 1) 0)), .int 1024, .int (nI (W))], M1) _
        have hc_108 := hY1.ch hs (k := (tX f n E j).length - 1) (by omega)
        refine ps_st (S' := (113, [(0, .ref m0), (2, .int (nI s)), (3, .int (nI ((tX f n E j).length - 1))), (4, .int (nI r))], [.int 86, .int (nI ((tX f n E j).getD ((tX f n E j).length - 1) 0)), .int 1024, .int (nI (W))], M1)) rfl rfl rfl ?_
        refine ps_if2 (S1 := (128, [(0, .ref m0), (2, .int (nI s)), (4, .int (nI r))], [.int 1024, .int (nI (W))], M1)) (S2 := (116, [(0, .ref m0), (2, .int (nI s)), (3, .int (nI ((tX f n E j).length - 1))), (4, .int (nI r))], [.int 1024, .int (nI (W))], M1)) rfl rfl rfl (fun c_113 => ?_) (fun c_113 => ?_)
        · have c_113 : ¬ (nI ((tX f n E j).getD ((tX f n E j).length - 1) 0)) = 86 := of_decide_eq_true c_113
          have n_113 : ¬ ((tX f n E j).getD ((tX f n E j).length - 1) 0 = 86) := fun h9 => c_113 ((eq_nI (p := (tX f n E j).getD ((tX f n E j).length - 1) 0) (n := 86) (by omega) (by decide)).mpr h9)
          refine ps_st (S' := (129, [(0, .ref m0), (2, .int (nI s)), (4, .int (nI r))], [.ref m0, .int 1024, .int (nI (W))], M1)) rfl rfl rfl ?_
          refine ps_st (S' := (130, [(0, .ref m0), (2, .int (nI s)), (4, .int (nI r))], [.int (nI s), .ref m0, .int 1024, .int (nI (W))], M1)) rfl rfl rfl ?_
          refine ps_st (S' := (132, [(0, .ref m0), (2, .int (nI s)), (4, .int (nI r))], [.int (nI r), .int (nI s), .ref m0, .int 1024, .int (nI (W))], M1)) rfl rfl rfl ?_
          refine ps_st (S' := (133, [(0, .ref m0), (2, .int (nI s)), (4, .int (nI r))], [.int 1, .int (nI r), .int (nI s), .ref m0, .int 1024, .int (nI (W))], M1)) rfl rfl rfl ?_
          refine ps_st (S' := (134, [(0, .ref m0), (2, .int (nI s)), (4, .int (nI r))], [.int ((nI r) + 1), .int (nI s), .ref m0, .int 1024, .int (nI (W))], M1)) rfl rfl rfl ?_
          rw [nI_add1 (p := r) (k := 1) (x := 1) rfl (by omega)]
          show pl _ _ _ (_, [(0, .ref m0), (2, .int (nI s)), (4, .int (nI r))], [.int (nI (r + 1)), .int (nI s), .ref m0, .int 1024, .int (nI (W))], M1) _
          refine pl_call (a := [.ref m0, .int (nI s), .int (nI (r + 1))]) (rest := [.int 1024, .int (nI (W))]) rfl rfl rfl (rd_wide (tx := tx) (cN := cN) (A := A) (s := s) (l := (tX f n E j)) (k := (r + 1)) hR1 hY1 (hs) (by omega)) (fun v10 M11 q12 => ?_)
          obtain ⟨rfl, rfl⟩ := q12
          show pl _ _ _ (137, [(0, .ref m0), (2, .int (nI s)), (4, .int (nI r))], [.int (nI (wdN ((tX f n E j).getD (r + 1) 0))), .int 1024, .int (nI (W))], M1) _
          have hw_134 := le1_wd ((tX f n E j).getD (r + 1) 0)
          refine ps_if (S1 := (144, [(0, .ref m0), (2, .int (nI s)), (4, .int (nI r))], [.int 1024, .int (nI (W))], M1)) (S2 := (140, [(0, .ref m0), (2, .int (nI s)), (4, .int (nI r))], [.int 1024, .int (nI (W))], M1)) rfl rfl rfl (fun c_137 => ?_) (fun c_137 => ?_)
          · have c_137 : (nI (wdN ((tX f n E j).getD (r + 1) 0))) = 0 := of_decide_eq_true c_137
            have n_137 : wdN ((tX f n E j).getD (r + 1) 0) = 0 := (eq_nI (p := wdN ((tX f n E j).getD (r + 1) 0)) (n := 0) (Nat.lt_trans (le1_wd _) (by decide)) (by decide)).mp c_137
            refine ps_st (S' := (145, [], [.int 1, .int 1024, .int (nI (W))], M1)) rfl rfl rfl ?_
            refine ps_st (S' := (146, [], [.int (1024 * 1), .int (nI (W))], M1)) rfl rfl rfl ?_
            refine ps_st (S' := (147, [], [.int ((nI (W)) + (1024 * 1))], M1)) rfl rfl rfl ?_
            exact ps_reti rfl (⟨I1, R1, congrArg (fun x => some (Value.int x)) (plT_v (t := 1) hm (show s_pl (fun i => (tX f n E j).getD i 0) (tX f n E j).length ((tX f n E j).length - 1) 1 0 = some (r, W) from by rw [hpl, er9.1]) (by rw [if_neg (by omega), pW_wd]; omega) rfl), hR1, hEI1, hER1, hl0⟩)
          · have c_137 : ¬ ((nI (wdN ((tX f n E j).getD (r + 1) 0))) = 0) := of_decide_eq_false c_137
            have n_137 : ¬ (wdN ((tX f n E j).getD (r + 1) 0) = 0) := fun h9 => c_137 ((eq_nI (p := wdN ((tX f n E j).getD (r + 1) 0)) (n := 0) (Nat.lt_trans (le1_wd _) (by decide)) (by decide)).mpr h9)
            refine ps_st (S' := (141, [(0, .ref m0), (2, .int (nI s)), (4, .int (nI r))], [.int 2, .int 1024, .int (nI (W))], M1)) rfl rfl rfl ?_
            refine ps_st (S' := (145, [], [.int 2, .int 1024, .int (nI (W))], M1)) rfl rfl rfl ?_
            refine ps_st (S' := (146, [], [.int (1024 * 2), .int (nI (W))], M1)) rfl rfl rfl ?_
            refine ps_st (S' := (147, [], [.int ((nI (W)) + (1024 * 2))], M1)) rfl rfl rfl ?_
            exact ps_reti rfl (⟨I1, R1, congrArg (fun x => some (Value.int x)) (plT_v (t := 2) hm (show s_pl (fun i => (tX f n E j).getD i 0) (tX f n E j).length ((tX f n E j).length - 1) 1 0 = some (r, W) from by rw [hpl, er9.1]) (by rw [if_neg (by omega), pW_wd]; omega) rfl), hR1, hEI1, hER1, hl0⟩)
        · have c_113 : ¬ (¬ (nI ((tX f n E j).getD ((tX f n E j).length - 1) 0)) = 86) := of_decide_eq_false c_113
          have n_113 : (tX f n E j).getD ((tX f n E j).length - 1) 0 = 86 := (eq_nI (p := (tX f n E j).getD ((tX f n E j).length - 1) 0) (n := 86) (by omega) (by decide)).mp (Decidable.not_not.mp c_113)
          refine ps_st (S' := (117, [(0, .ref m0), (2, .int (nI s)), (3, .int (nI ((tX f n E j).length - 1))), (4, .int (nI r))], [.int (nI ((tX f n E j).length - 1)), .int 1024, .int (nI (W))], M1)) rfl rfl rfl ?_
          refine ps_st (S' := (119, [(0, .ref m0), (2, .int (nI s)), (3, .int (nI ((tX f n E j).length - 1))), (4, .int (nI r))], [.int (nI r), .int (nI ((tX f n E j).length - 1)), .int 1024, .int (nI (W))], M1)) rfl rfl rfl ?_
          refine ps_st (S' := (120, [(0, .ref m0), (2, .int (nI s)), (3, .int (nI ((tX f n E j).length - 1))), (4, .int (nI r))], [.int 1, .int (nI r), .int (nI ((tX f n E j).length - 1)), .int 1024, .int (nI (W))], M1)) rfl rfl rfl ?_
          refine ps_st (S' := (121, [(0, .ref m0), (2, .int (nI s)), (3, .int (nI ((tX f n E j).length - 1))), (4, .int (nI r))], [.int ((nI r) + 1), .int (nI ((tX f n E j).length - 1)), .int 1024, .int (nI (W))], M1)) rfl rfl rfl ?_
          rw [nI_add1 (p := r) (k := 1) (x := 1) rfl (by omega)]
          show pl _ _ _ (_, [(0, .ref m0), (2, .int (nI s)), (3, .int (nI ((tX f n E j).length - 1))), (4, .int (nI r))], [.int (nI (r + 1)), .int (nI ((tX f n E j).length - 1)), .int 1024, .int (nI (W))], M1) _
          refine ps_if2 (S1 := (128, [(0, .ref m0), (2, .int (nI s)), (4, .int (nI r))], [.int 1024, .int (nI (W))], M1)) (S2 := (124, [(0, .ref m0), (2, .int (nI s)), (3, .int (nI ((tX f n E j).length - 1))), (4, .int (nI r))], [.int 1024, .int (nI (W))], M1)) rfl rfl rfl (fun c_121 => ?_) (fun c_121 => ?_)
          · have c_121 : ¬ (nI ((tX f n E j).length - 1)) = (nI (r + 1)) := of_decide_eq_true c_121
            have n_121 : ¬ ((tX f n E j).length - 1 = r + 1) := fun h9 => c_121 ((eq_nI (p := (tX f n E j).length - 1) (n := r + 1) (by omega) (by omega)).mpr h9)
            refine ps_st (S' := (129, [(0, .ref m0), (2, .int (nI s)), (4, .int (nI r))], [.ref m0, .int 1024, .int (nI (W))], M1)) rfl rfl rfl ?_
            refine ps_st (S' := (130, [(0, .ref m0), (2, .int (nI s)), (4, .int (nI r))], [.int (nI s), .ref m0, .int 1024, .int (nI (W))], M1)) rfl rfl rfl ?_
            refine ps_st (S' := (132, [(0, .ref m0), (2, .int (nI s)), (4, .int (nI r))], [.int (nI r), .int (nI s), .ref m0, .int 1024, .int (nI (W))], M1)) rfl rfl rfl ?_
            refine ps_st (S' := (133, [(0, .ref m0), (2, .int (nI s)), (4, .int (nI r))], [.int 1, .int (nI r), .int (nI s), .ref m0, .int 1024, .int (nI (W))], M1)) rfl rfl rfl ?_
            refine ps_st (S' := (134, [(0, .ref m0), (2, .int (nI s)), (4, .int (nI r))], [.int ((nI r) + 1), .int (nI s), .ref m0, .int 1024, .int (nI (W))], M1)) rfl rfl rfl ?_
            rw [nI_add1 (p := r) (k := 1) (x := 1) rfl (by omega)]
            show pl _ _ _ (_, [(0, .ref m0), (2, .int (nI s)), (4, .int (nI r))], [.int (nI (r + 1)), .int (nI s), .ref m0, .int 1024, .int (nI (W))], M1) _
            refine pl_call (a := [.ref m0, .int (nI s), .int (nI (r + 1))]) (rest := [.int 1024, .int (nI (W))]) rfl rfl rfl (rd_wide (tx := tx) (cN := cN) (A := A) (s := s) (l := (tX f n E j)) (k := (r + 1)) hR1 hY1 (hs) (by omega)) (fun v13 M14 q15 => ?_)
            obtain ⟨rfl, rfl⟩ := q15
            show pl _ _ _ (137, [(0, .ref m0), (2, .int (nI s)), (4, .int (nI r))], [.int (nI (wdN ((tX f n E j).getD (r + 1) 0))), .int 1024, .int (nI (W))], M1) _
            have hw_134 := le1_wd ((tX f n E j).getD (r + 1) 0)
            refine ps_if (S1 := (144, [(0, .ref m0), (2, .int (nI s)), (4, .int (nI r))], [.int 1024, .int (nI (W))], M1)) (S2 := (140, [(0, .ref m0), (2, .int (nI s)), (4, .int (nI r))], [.int 1024, .int (nI (W))], M1)) rfl rfl rfl (fun c_137 => ?_) (fun c_137 => ?_)
            · have c_137 : (nI (wdN ((tX f n E j).getD (r + 1) 0))) = 0 := of_decide_eq_true c_137
              have n_137 : wdN ((tX f n E j).getD (r + 1) 0) = 0 := (eq_nI (p := wdN ((tX f n E j).getD (r + 1) 0)) (n := 0) (Nat.lt_trans (le1_wd _) (by decide)) (by decide)).mp c_137
              refine ps_st (S' := (145, [], [.int 1, .int 1024, .int (nI (W))], M1)) rfl rfl rfl ?_
              refine ps_st (S' := (146, [], [.int (1024 * 1), .int (nI (W))], M1)) rfl rfl rfl ?_
              refine ps_st (S' := (147, [], [.int ((nI (W)) + (1024 * 1))], M1)) rfl rfl rfl ?_
              exact ps_reti rfl (⟨I1, R1, congrArg (fun x => some (Value.int x)) (plT_v (t := 1) hm (show s_pl (fun i => (tX f n E j).getD i 0) (tX f n E j).length ((tX f n E j).length - 1) 1 0 = some (r, W) from by rw [hpl, er9.1]) (by rw [if_neg (by omega), pW_wd]; omega) rfl), hR1, hEI1, hER1, hl0⟩)
            · have c_137 : ¬ ((nI (wdN ((tX f n E j).getD (r + 1) 0))) = 0) := of_decide_eq_false c_137
              have n_137 : ¬ (wdN ((tX f n E j).getD (r + 1) 0) = 0) := fun h9 => c_137 ((eq_nI (p := wdN ((tX f n E j).getD (r + 1) 0)) (n := 0) (Nat.lt_trans (le1_wd _) (by decide)) (by decide)).mpr h9)
              refine ps_st (S' := (141, [(0, .ref m0), (2, .int (nI s)), (4, .int (nI r))], [.int 2, .int 1024, .int (nI (W))], M1)) rfl rfl rfl ?_
              refine ps_st (S' := (145, [], [.int 2, .int 1024, .int (nI (W))], M1)) rfl rfl rfl ?_
              refine ps_st (S' := (146, [], [.int (1024 * 2), .int (nI (W))], M1)) rfl rfl rfl ?_
              refine ps_st (S' := (147, [], [.int ((nI (W)) + (1024 * 2))], M1)) rfl rfl rfl ?_
              exact ps_reti rfl (⟨I1, R1, congrArg (fun x => some (Value.int x)) (plT_v (t := 2) hm (show s_pl (fun i => (tX f n E j).getD i 0) (tX f n E j).length ((tX f n E j).length - 1) 1 0 = some (r, W) from by rw [hpl, er9.1]) (by rw [if_neg (by omega), pW_wd]; omega) rfl), hR1, hEI1, hER1, hl0⟩)
          · have c_121 : ¬ (¬ (nI ((tX f n E j).length - 1)) = (nI (r + 1))) := of_decide_eq_false c_121
            have n_121 : (tX f n E j).length - 1 = r + 1 := (eq_nI (p := (tX f n E j).length - 1) (n := r + 1) (by omega) (by omega)).mp (Decidable.not_not.mp c_121)
            refine ps_st (S' := (125, [(0, .ref m0), (2, .int (nI s)), (3, .int (nI ((tX f n E j).length - 1))), (4, .int (nI r))], [.int 0, .int 1024, .int (nI (W))], M1)) rfl rfl rfl ?_
            refine ps_st (S' := (145, [], [.int 0, .int 1024, .int (nI (W))], M1)) rfl rfl rfl ?_
            refine ps_st (S' := (146, [], [.int (1024 * 0), .int (nI (W))], M1)) rfl rfl rfl ?_
            refine ps_st (S' := (147, [], [.int ((nI (W)) + (1024 * 0))], M1)) rfl rfl rfl ?_
            exact ps_reti rfl (⟨I1, R1, congrArg (fun x => some (Value.int x)) (plT_v (t := 0) hm (show s_pl (fun i => (tX f n E j).getD i 0) (tX f n E j).length ((tX f n E j).length - 1) 1 0 = some (r, W) from by rw [hpl, er9.1]) ((if_pos ⟨by omega, by omega⟩).symm) rfl), hR1, hEI1, hER1, hl0⟩)
      · have c_82 : ¬ ((nI ((tX f n E j).getD r 0)) = 41) := of_decide_eq_false c_82
        have n_82 : ¬ ((tX f n E j).getD r 0 = 41) := fun h9 => c_82 ((eq_nI (p := (tX f n E j).getD r 0) (n := 41) (Nat.lt_trans (tx_ch _ _ _ _ _) (by decide)) (by decide)).mpr h9)
        refine ps_st (S' := (86, [(0, .ref m0), (2, .int (nI s)), (3, .int (nI ((tX f n E j).length - 1))), (4, .int (nI r))], [.ref m0], M1)) rfl rfl rfl ?_
        refine ps_st (S' := (87, [(0, .ref m0), (2, .int (nI s)), (3, .int (nI ((tX f n E j).length - 1))), (4, .int (nI r))], [.int (nI s), .ref m0], M1)) rfl rfl rfl ?_
        refine ps_st (S' := (89, [(0, .ref m0), (2, .int (nI s)), (3, .int (nI ((tX f n E j).length - 1))), (4, .int (nI r))], [.int (nI r), .int (nI s), .ref m0], M1)) rfl rfl rfl ?_
        refine pl_call (a := [.ref m0, .int (nI s), .int (nI r)]) (rest := []) rfl rfl rfl (rd_fieldText (tx := tx) (cN := cN) (A := A) (s := s) (l := (tX f n E j)) (a := r) hR1 hY1 (hs) (by omega)) (fun v16 M17 q18 => ?_)
        rcases q18 with q18 | q18
        · skip
          obtain ⟨q89_s, rfl, rfl⟩ := q18
          show pl _ _ _ (92, [(0, .ref m0), (2, .int (nI s)), (3, .int (nI ((tX f n E j).length - 1))), (4, .int (nI r))], [.int (-1)], M1) _
          rw [s_pl_bad (by omega) q89_s] at hp
          cases hp
        · skip
          obtain ⟨x19, q89_s, q89_l, rfl, rfl⟩ := q18
          show pl _ _ _ (92, [(0, .ref m0), (2, .int (nI s)), (3, .int (nI ((tX f n E j).length - 1))), (4, .int (nI r))], [.int (nI x19)], M1) _
          refine ps_st (S' := (94, [(4, .int (nI x19)), (0, .ref m0), (2, .int (nI s)), (3, .int (nI ((tX f n E j).length - 1)))], [], M1)) rfl rfl rfl ?_
          refine ps_st (S' := (73, [(0, .ref m0), (2, .int (nI s)), (3, .int (nI ((tX f n E j).length - 1))), (4, .int (nI x19))], [], M1)) rfl rfl rfl ?_
          exact ih (s) (x19) (w + pW ((tX f n E j).getD r 0)) M1 I1 R1 hR1 hEI1 hER1 hl0 hY1 (hs) (by omega) (by
              rw [← hp, s_pl_step (by omega) q89_s])
  refine ps_st (S' := (1, [(0, .ref m0), (1, .int (nI j))], [.ref m0], M)) rfl rfl rfl ?_
  refine ps_st (S' := (2, [(0, .ref m0), (1, .int (nI j))], [.int 0, .ref m0], M)) rfl rfl rfl ?_
  refine pr_put (j := 0) rfl hR rfl (fun M20 I21 hR22 hi23 hI24 => ?_)
  have hi25 := (hI24 18 (by decide)).trans hi18
  have hi26 := (hI24 51 (by decide)).trans hi51
  have hi27 := (hI24 52 (by decide)).trans hi52
  have hi28 := (hI24 53 (by decide)).trans hi53
  have hF_29 := hF.mono (pIx hI24 (by decide)) (fun _ _ => rfl)
  have hY_30 := hY.mono (pIx hI24 (by decide)) (fun _ _ => rfl)
  have hP_31 := hP.mono (pIx hI24 (by decide)) (fun _ _ => rfl)
  have hEI32 := hEI.put hI24 (by decide)
  show pl _ _ _ (5, [(0, .ref m0), (1, .int (nI j))], [], M20) _
  refine ps_st (S' := (6, [(0, .ref m0), (1, .int (nI j))], [.ref m0], M20)) rfl rfl rfl ?_
  refine pr_int (j := 18) (S' := (9, [(0, .ref m0), (1, .int (nI j))], [.int (nI n2)], M20)) rfl hR22 rfl hi25 rfl ?_
  refine ps_if (S1 := (21, [], [], M20)) (S2 := (12, [(0, .ref m0), (1, .int (nI j))], [], M20)) rfl rfl rfl (fun c_9 => ?_) (fun c_9 => ?_)
  · exact absurd (of_decide_eq_true c_9) (show ¬ ((nI n2) < 0) from fun h9 => absurd ((lt_nI (p := n2) (n := 0) (by omega) (by decide)).mp h9) (by omega))
  refine ps_st (S' := (13, [(0, .ref m0), (1, .int (nI j))], [.ref m0], M20)) rfl rfl rfl ?_
  refine ps_st (S' := (14, [(0, .ref m0), (1, .int (nI j))], [.int (nI j), .ref m0], M20)) rfl rfl rfl ?_
  refine pl_call (a := [.ref m0, .int (nI j)]) (rest := []) rfl rfl rfl (rd_tag (n := n) (f := f) (tx := tx) (cN := cN) (A := A) (N := N) (mj := mj) (E := E) (k := j) hR22 hi26 hi27 hi28 hF_29 hY_30 hP_31 (hEP) (hN) (hmj) (by omega)) (fun v33 M34 q35 => ?_)
  obtain ⟨rfl, rfl⟩ := q35
  show pl _ _ _ (17, [(0, .ref m0), (1, .int (nI j))], [.int (nI (tg f E j))], M20) _
  have htg_14 := tg_lt f E j
  refine ps_st (S' := (18, [(0, .ref m0), (1, .int (nI j))], [.int 1, .int (nI (tg f E j))], M20)) rfl rfl rfl ?_
  refine ps_if2 (S1 := (23, [(0, .ref m0), (1, .int (nI j))], [], M20)) (S2 := (21, [], [], M20)) rfl rfl rfl (fun c_18 => ?_) (fun c_18 => ?_)
  rotate_left
  · exact absurd (by rw [h1t]; rfl) (of_decide_eq_false c_18)
  refine ps_st (S' := (24, [(0, .ref m0), (1, .int (nI j))], [.ref m0], M20)) rfl rfl rfl ?_
  refine ps_st (S' := (25, [(0, .ref m0), (1, .int (nI j))], [.int (nI j), .ref m0], M20)) rfl rfl rfl ?_
  refine pl_call (a := [.ref m0, .int (nI j)]) (rest := []) rfl rfl rfl (rd_symOf (n := n) (f := f) (tx := tx) (cN := cN) (A := A) (N := N) (mj := mj) (E := E) (k := j) hR22 hi26 hi27 hi28 hF_29 hY_30 hP_31 (hEP) (hN) (hmj) (by omega)) (fun v36 M37 q38 => ?_)
  obtain ⟨s39, q25_s, rfl, rfl⟩ := q38
  show pl _ _ _ (28, [(0, .ref m0), (1, .int (nI j))], [.int (nI s39)], M20) _
  have hsl_25 := q25_s.1
  have htl_25 := hY_30.1.2.2.1
  refine ps_st (S' := (29, [(2, .int (nI s39)), (0, .ref m0), (1, .int (nI j))], [], M20)) rfl rfl rfl ?_
  refine ps_st (S' := (30, [(2, .int (nI s39)), (0, .ref m0), (1, .int (nI j))], [.ref m0], M20)) rfl rfl rfl ?_
  refine ps_st (S' := (31, [(2, .int (nI s39)), (0, .ref m0), (1, .int (nI j))], [.int (nI s39), .ref m0], M20)) rfl rfl rfl ?_
  refine pl_call (a := [.ref m0, .int (nI s39)]) (rest := []) rfl rfl rfl (rd_isField (tx := tx) (cN := cN) (A := A) (s := s39) (l := (tX f n E j)) hR22 hY_30 (q25_s)) (fun v40 M41 q42 => ?_)
  obtain ⟨rfl, rfl⟩ := q42
  show pl _ _ _ (34, [(2, .int (nI s39)), (0, .ref m0), (1, .int (nI j))], [.int (nI (fldN (tX f n E j)))], M20) _
  refine ps_if (S1 := (52, [(2, .int (nI s39)), (0, .ref m0), (1, .int (nI j))], [], M20)) (S2 := (37, [(2, .int (nI s39)), (0, .ref m0), (1, .int (nI j))], [], M20)) rfl rfl rfl (fun c_34 => ?_) (fun c_34 => ?_)
  rotate_left
  · exact absurd ((eq_nI (p := fldN (tX f n E j)) (n := 0) (Nat.lt_trans (le1_fld _) (by decide)) (by decide)).mpr (by omega)) (of_decide_eq_false c_34)
  refine ps_st (S' := (53, [(2, .int (nI s39)), (0, .ref m0), (1, .int (nI j))], [.ref m0], M20)) rfl rfl rfl ?_
  refine ps_st (S' := (54, [(2, .int (nI s39)), (0, .ref m0), (1, .int (nI j))], [.int (nI s39), .ref m0], M20)) rfl rfl rfl ?_
  refine pl_call (a := [.ref m0, .int (nI s39)]) (rest := []) rfl rfl rfl (rd_isMethod (tx := tx) (cN := cN) (A := A) (s := s39) (l := (tX f n E j)) hR22 hY_30 (q25_s)) (fun v43 M44 q45 => ?_)
  obtain ⟨rfl, rfl⟩ := q45
  show pl _ _ _ (57, [(2, .int (nI s39)), (0, .ref m0), (1, .int (nI j))], [.int (nI (mthN (tX f n E j)))], M20) _
  refine ps_if (S1 := (62, [(2, .int (nI s39)), (0, .ref m0), (1, .int (nI j))], [], M20)) (S2 := (60, [(2, .int (nI s39)), (0, .ref m0), (1, .int (nI j))], [], M20)) rfl rfl rfl (fun c_57 => ?_) (fun c_57 => ?_)
  rotate_left
  · exact absurd (show ¬ ((nI (mthN (tX f n E j))) = 0) from fun h9 => absurd ((eq_nI (p := mthN (tX f n E j)) (n := 0) (Nat.lt_trans (le1_mth _) (by decide)) (by decide)).mp h9) (by omega)) (of_decide_eq_false c_57)
  refine ps_st (S' := (63, [(2, .int (nI s39)), (0, .ref m0), (1, .int (nI j))], [.ref m0], M20)) rfl rfl rfl ?_
  refine ps_st (S' := (64, [(2, .int (nI s39)), (0, .ref m0), (1, .int (nI j))], [.int (nI s39), .ref m0], M20)) rfl rfl rfl ?_
  refine pl_call (a := [.ref m0, .int (nI s39)]) (rest := []) rfl rfl rfl (rd_length (tx := tx) (cN := cN) (A := A) (s := s39) (l := (tX f n E j)) hR22 hY_30 (q25_s)) (fun v46 M47 q48 => ?_)
  obtain ⟨rfl, rfl⟩ := q48
  show pl _ _ _ (67, [(2, .int (nI s39)), (0, .ref m0), (1, .int (nI j))], [.int (nI ((tX f n E j).length))], M20) _
  refine ps_st (S' := (68, [(2, .int (nI s39)), (0, .ref m0), (1, .int (nI j))], [.int 1, .int (nI ((tX f n E j).length))], M20)) rfl rfl rfl ?_
  refine ps_st (S' := (69, [(2, .int (nI s39)), (0, .ref m0), (1, .int (nI j))], [.int ((nI ((tX f n E j).length)) - 1)], M20)) rfl rfl rfl ?_
  rw [nI_sub1 (p := (tX f n E j).length) (k := 1) (x := 1) rfl (by omega) (by omega)]
  show pl _ _ _ (_, [(2, .int (nI s39)), (0, .ref m0), (1, .int (nI j))], [.int (nI (((tX f n E j).length) - 1))], M20) _
  refine ps_st (S' := (70, [(3, .int (nI (((tX f n E j).length) - 1))), (2, .int (nI s39)), (0, .ref m0), (1, .int (nI j))], [], M20)) rfl rfl rfl ?_
  refine ps_st (S' := (71, [(3, .int (nI (((tX f n E j).length) - 1))), (2, .int (nI s39)), (0, .ref m0), (1, .int (nI j))], [.int 1], M20)) rfl rfl rfl ?_
  refine ps_st (S' := (73, [(0, .ref m0), (2, .int (nI s39)), (3, .int (nI (((tX f n E j).length) - 1))), (4, .int 1)], [], M20)) rfl rfl rfl ?_
  exact (LL kf) (s39) (1) (0) M20 I21 R hR22 hEI32 hER hi23 hY_30 (q25_s) (by omega) (hpl)
theorem rd_places {g : xe_G} {m0 : Nat} {q : Nat → Nat} {z : Nat × Nat} {I : rI} {R : rR} {M : mi_H} {ko : Option (Nat × (Nat → Int32))} {k : Int32} (hR : RS g m0 q z I R M) (hK : KPR ko I R) : pt (mT g) 232 [.ref m0, .int k] M (fun v M' => ∃ (I' : rI) (R' : rR), v = some (.int (plK ko k)) ∧ RS g m0 q z I' R' M' ∧ eqI [0] I I' ∧ eqR [] R R' ∧ I' 0 = some 0) := by
  cases ko with
  | none =>
    obtain ⟨kn, h1, h2⟩ := hK
    exact rd_placesk hR h1 h2
  | some r =>
    obtain ⟨h1, h2, -, -, tx, cN, A, E, N, mj, p1, pF, pM, pA, k1, k2, k3, k4, k5, k6, k7, rfl, rfl, -⟩ := hK
    rw [plK_is k7]
    have hN := by2_lt r.2 8
    have hpl := whole_in k7
    have hEP := (EP_of hpl).1
    have h0 := tg_0 hpl
    unfold plX
    by_cases ht : tg r.2 E k.toNatClampNeg = 1
    · have hk0 : ¬ k < 0 := fun h9 => by rw [i32_cl h9, h0] at ht; cases ht
      have e := i32_nn hk0
      obtain ⟨j, ej⟩ : ∃ j, j = k.toNatClampNeg := ⟨_, rfl⟩
      rw [← ej] at e ht ⊢
      have hj : j < 65536 := Nat.not_le.mp (fun h9 => by
        unfold tg at ht
        rw [lk_hi k3.1 (Or.inr (by omega))] at ht
        cases ht)
      subst e
      rw [if_pos ht]
      by_cases hf : fldN (tX r.2 r.1 E j) = 0
      · by_cases hm : mthN (tX r.2 r.1 E j) = 0
        · exact rd_placesN hR h1 k4 k5 k6 k1 k2 k3 hEP hN (by2_lt _ _) h2 hj ht hf hm
        · obtain ⟨a1, a2, k0, W, a3, a4, a5, a6, a7, -⟩ := mth_in hm
          exact rd_placesM hR h1 k4 k5 k6 k1 k2 k3 hEP hN (by2_lt _ _) h2 hj ht hf hm a3 ⟨a4, a6, a7⟩ a5
      · exact rd_placesF hR h1 k4 k5 k6 k1 k2 k3 hEP hN (by2_lt _ _) h2 hj ht hf
    · rw [if_neg ht]
      exact rd_placesT hR h1 k4 k5 k6 k1 k2 k3 hEP hN (by2_lt _ _) h2 h0 ht
