set_option maxHeartbeats 1000000 in
theorem rd_bits0 {g : xe_G} {m0 : Nat} {q : Nat → Nat} {z : Nat × Nat} {I : rI} {R : rR} {M : mi_H} {kn k : Int32} (hR : RS g m0 q z I R M) (hi18 : I 18 = some kn)  (hk : kn < 0) : pt (mT g) 183 [.ref m0, .int k] M (fun v M' => (∃  (I' : rI) (R' : rR), v = some (.long 0) ∧ RS g m0 q z I' R' M' ∧ eqI [0] I I' ∧ eqR [] R R' ∧ I' 0 = some 0)) := by
  refine pt_in (b := mb_183 g) rfl (fun kf => ?_)
  show pl (mT g) kf (mb_183 g).2 (0, [(0, .ref m0), (1, .int k)], [], M) _
  have hEI : eqI [0] I I := eqI.rf
  have hER : eqR [] R R := eqR.rf
  refine ps_st (S' := (1, [(0, .ref m0), (1, .int k)], [.ref m0], M)) rfl rfl rfl ?_
  refine ps_st (S' := (2, [(0, .ref m0), (1, .int k)], [.int 0, .ref m0], M)) rfl rfl rfl ?_
  refine pr_put (j := 0) rfl hR rfl (fun M1 I2 hR3 hi4 hI5 => ?_)
  have hi6 := (hI5 18 (by decide)).trans hi18
  have hEI7 := hEI.put hI5 (by decide)
  show pl _ _ _ (5, [(0, .ref m0), (1, .int k)], [], M1) _
  refine ps_st (S' := (6, [(0, .ref m0), (1, .int k)], [.ref m0], M1)) rfl rfl rfl ?_
  refine pr_int (j := 18) (S' := (9, [(0, .ref m0), (1, .int k)], [.int kn], M1)) rfl hR3 rfl hi6 rfl ?_
  refine ps_if (S1 := (14, [(0, .ref m0), (1, .int k)], [], M1)) (S2 := (12, [(0, .ref m0), (1, .int k)], [], M1)) rfl rfl rfl (fun c_9 => ?_) (fun c_9 => ?_)
  · exact absurd (of_decide_eq_true c_9) (Int32.not_le.mpr hk)
  refine ps_st (S' := (13, [(0, .ref m0), (1, .int k)], [.long 0], M1)) rfl rfl rfl ?_
  exact ps_ret rfl rfl (⟨I2, R, rfl, hR3, hEI7, hER, hi4⟩)
set_option maxHeartbeats 1000000 in
theorem rd_bitsT {g : xe_G} {m0 : Nat} {q : Nat → Nat} {z : Nat × Nat} {I : rI} {R : rR} {M : mi_H} {n : Nat} {f : Nat → Int32} {tx : List (List Nat)} {cN : Nat} {A : Nat → Nat} {N mj : Nat} {E : List (Nat × Nat)} {n2 : Nat} {k : Int32} (hR : RS g m0 q z I R M) (hi18 : I 18 = some (nI n2)) (hi51 : I 51 = some 0) (hi52 : I 52 = some (nI N)) (hi53 : I 53 = some (nI mj)) (hF : FK n f I R) (hY : SYT tx cN A I R) (hP : RPV f n E tx N I R) (hEP : EP f n E) (hN : N < 65536) (hmj : mj < 65536) (hn2 : n2 ≤ 65540) (h0 : tg f E 0 = 0) (ht : ¬ (3 ≤ tg f E k.toNatClampNeg ∧ tg f E k.toNatClampNeg ≤ 6)) : pt (mT g) 183 [.ref m0, .int k] M (fun v M' => (∃  (I' : rI) (R' : rR), v = some (.long 0) ∧ RS g m0 q z I' R' M' ∧ eqI [0] I I' ∧ eqR [] R R' ∧ I' 0 = some 0)) := by
  refine pt_in (b := mb_183 g) rfl (fun kf => ?_)
  show pl (mT g) kf (mb_183 g).2 (0, [(0, .ref m0), (1, .int k)], [], M) _
  have hEI : eqI [0] I I := eqI.rf
  have hER : eqR [] R R := eqR.rf
  refine ps_st (S' := (1, [(0, .ref m0), (1, .int k)], [.ref m0], M)) rfl rfl rfl ?_
  refine ps_st (S' := (2, [(0, .ref m0), (1, .int k)], [.int 0, .ref m0], M)) rfl rfl rfl ?_
  refine pr_put (j := 0) rfl hR rfl (fun M1 I2 hR3 hi4 hI5 => ?_)
  have hi6 := (hI5 18 (by decide)).trans hi18
  have hi7 := (hI5 51 (by decide)).trans hi51
  have hi8 := (hI5 52 (by decide)).trans hi52
  have hi9 := (hI5 53 (by decide)).trans hi53
  have hF_10 := hF.mono (pIx hI5 (by decide)) (fun _ _ => rfl)
  have hY_11 := hY.mono (pIx hI5 (by decide)) (fun _ _ => rfl)
  have hP_12 := hP.mono (pIx hI5 (by decide)) (fun _ _ => rfl)
  have hEI13 := hEI.put hI5 (by decide)
  show pl _ _ _ (5, [(0, .ref m0), (1, .int k)], [], M1) _
  refine ps_st (S' := (6, [(0, .ref m0), (1, .int k)], [.ref m0], M1)) rfl rfl rfl ?_
  refine pr_int (j := 18) (S' := (9, [(0, .ref m0), (1, .int k)], [.int (nI n2)], M1)) rfl hR3 rfl hi6 rfl ?_
  refine ps_if (S1 := (14, [(0, .ref m0), (1, .int k)], [], M1)) (S2 := (12, [(0, .ref m0), (1, .int k)], [], M1)) rfl rfl rfl (fun c_9 => ?_) (fun c_9 => ?_)
  rotate_left
  · exact absurd ((le_nI (p := 0) (n := n2) (by decide) (by omega)).mpr (by omega)) (of_decide_eq_false c_9)
  refine ps_st (S' := (15, [(0, .ref m0), (1, .int k)], [.ref m0], M1)) rfl rfl rfl ?_
  refine ps_st (S' := (16, [(0, .ref m0), (1, .int k)], [.int k, .ref m0], M1)) rfl rfl rfl ?_
  refine pl_call (a := [.ref m0, .int k]) (rest := []) rfl rfl rfl (rd_tagR (n := n) (f := f) (tx := tx) (cN := cN) (A := A) (N := N) (mj := mj) (E := E) (k := k) hR3 hi7 hi8 hi9 hF_10 hY_11 hP_12 (hEP) (hN) (hmj) (h0)) (fun v14 M15 q16 => ?_)
  obtain ⟨rfl, rfl⟩ := q16
  show pl _ _ _ (19, [(0, .ref m0), (1, .int k)], [.int (nI (tg f E k.toNatClampNeg))], M1) _
  have htg9 := tg_lt f E k.toNatClampNeg
  refine ps_st (S' := (20, [(2, .int (nI (tg f E k.toNatClampNeg))), (0, .ref m0), (1, .int k)], [], M1)) rfl rfl rfl ?_
  refine ps_st (S' := (21, [(2, .int (nI (tg f E k.toNatClampNeg))), (0, .ref m0), (1, .int k)], [.int (nI (tg f E k.toNatClampNeg))], M1)) rfl rfl rfl ?_
  refine ps_st (S' := (22, [(2, .int (nI (tg f E k.toNatClampNeg))), (0, .ref m0), (1, .int k)], [.int 3, .int (nI (tg f E k.toNatClampNeg))], M1)) rfl rfl rfl ?_
  refine ps_if2 (S1 := (30, [(0, .ref m0), (1, .int k)], [], M1)) (S2 := (25, [(2, .int (nI (tg f E k.toNatClampNeg))), (0, .ref m0), (1, .int k)], [], M1)) rfl rfl rfl (fun c_22 => ?_) (fun c_22 => ?_)
  · exact absurd (of_decide_eq_true c_22) (fun h9 => ht (by have h8 := (eq_nI (p := tg f E k.toNatClampNeg) (n := 3) (by omega) (by decide)).mp h9; omega))
  refine ps_st (S' := (26, [(2, .int (nI (tg f E k.toNatClampNeg))), (0, .ref m0), (1, .int k)], [.int (nI (tg f E k.toNatClampNeg))], M1)) rfl rfl rfl ?_
  refine ps_st (S' := (27, [(2, .int (nI (tg f E k.toNatClampNeg))), (0, .ref m0), (1, .int k)], [.int 4, .int (nI (tg f E k.toNatClampNeg))], M1)) rfl rfl rfl ?_
  refine ps_if2 (S1 := (45, [(2, .int (nI (tg f E k.toNatClampNeg))), (0, .ref m0), (1, .int k)], [], M1)) (S2 := (30, [(0, .ref m0), (1, .int k)], [], M1)) rfl rfl rfl (fun c_27 => ?_) (fun c_27 => ?_)
  rotate_left
  · exact absurd (show ¬ (nI (tg f E k.toNatClampNeg)) = 4 from fun h9 => ht (by have h8 := (eq_nI (p := tg f E k.toNatClampNeg) (n := 4) (by omega) (by decide)).mp h9; omega)) (of_decide_eq_false c_27)
  refine ps_st (S' := (46, [(2, .int (nI (tg f E k.toNatClampNeg))), (0, .ref m0), (1, .int k)], [.int (nI (tg f E k.toNatClampNeg))], M1)) rfl rfl rfl ?_
  refine ps_st (S' := (47, [(2, .int (nI (tg f E k.toNatClampNeg))), (0, .ref m0), (1, .int k)], [.int 5, .int (nI (tg f E k.toNatClampNeg))], M1)) rfl rfl rfl ?_
  refine ps_if2 (S1 := (56, [(0, .ref m0), (1, .int k)], [], M1)) (S2 := (50, [(2, .int (nI (tg f E k.toNatClampNeg))), (0, .ref m0), (1, .int k)], [], M1)) rfl rfl rfl (fun c_47 => ?_) (fun c_47 => ?_)
  · exact absurd (of_decide_eq_true c_47) (fun h9 => ht (by have h8 := (eq_nI (p := tg f E k.toNatClampNeg) (n := 5) (by omega) (by decide)).mp h9; omega))
  refine ps_st (S' := (51, [(2, .int (nI (tg f E k.toNatClampNeg))), (0, .ref m0), (1, .int k)], [.int (nI (tg f E k.toNatClampNeg))], M1)) rfl rfl rfl ?_
  refine ps_st (S' := (53, [(2, .int (nI (tg f E k.toNatClampNeg))), (0, .ref m0), (1, .int k)], [.int 6, .int (nI (tg f E k.toNatClampNeg))], M1)) rfl rfl rfl ?_
  refine ps_if2 (S1 := (85, [(2, .int (nI (tg f E k.toNatClampNeg))), (0, .ref m0), (1, .int k)], [], M1)) (S2 := (56, [(0, .ref m0), (1, .int k)], [], M1)) rfl rfl rfl (fun c_53 => ?_) (fun c_53 => ?_)
  rotate_left
  · exact absurd (show ¬ (nI (tg f E k.toNatClampNeg)) = 6 from fun h9 => ht (by have h8 := (eq_nI (p := tg f E k.toNatClampNeg) (n := 6) (by omega) (by decide)).mp h9; omega)) (of_decide_eq_false c_53)
  refine ps_st (S' := (86, [(2, .int (nI (tg f E k.toNatClampNeg))), (0, .ref m0), (1, .int k)], [.long 0], M1)) rfl rfl rfl ?_
  exact ps_ret rfl rfl (⟨I2, R, rfl, hR3, hEI13, hER, hi4⟩)
set_option maxHeartbeats 1000000 in
theorem rd_bits4 {g : xe_G} {m0 : Nat} {q : Nat → Nat} {z : Nat × Nat} {I : rI} {R : rR} {M : mi_H} {n : Nat} {f : Nat → Int32} {tx : List (List Nat)} {cN : Nat} {A : Nat → Nat} {N mj : Nat} {E : List (Nat × Nat)} {n2 : Nat} {j p : Nat} (hR : RS g m0 q z I R M) (hi18 : I 18 = some (nI n2)) (hi51 : I 51 = some 0) (hi52 : I 52 = some (nI N)) (hi53 : I 53 = some (nI mj)) (hF : FK n f I R) (hY : SYT tx cN A I R) (hP : RPV f n E tx N I R) (hEP : EP f n E) (hN : N < 65536) (hmj : mj < 65536) (hn2 : n2 ≤ 65540) (hj : j < 65536) (hk9 : lk E j = some p) (htt : tg f E j = 3 ∨ tg f E j = 4) (hin : p + 5 ≤ n) : pt (mT g) 183 [.ref m0, .int (nI j)] M (fun v M' => (∃  (I' : rI) (R' : rR), v = some (.long (bL4 f p)) ∧ RS g m0 q z I' R' M' ∧ eqI [0] I I' ∧ eqR [] R R' ∧ I' 0 = some 0)) := by
  refine pt_in (b := mb_183 g) rfl (fun kf => ?_)
  show pl (mT g) kf (mb_183 g).2 (0, [(0, .ref m0), (1, .int (nI j))], [], M) _
  have hEI : eqI [0] I I := eqI.rf
  have hER : eqR [] R R := eqR.rf
  have hn := hF.1
  have htl9 := tg_lt f E j
  refine ps_st (S' := (1, [(0, .ref m0), (1, .int (nI j))], [.ref m0], M)) rfl rfl rfl ?_
  refine ps_st (S' := (2, [(0, .ref m0), (1, .int (nI j))], [.int 0, .ref m0], M)) rfl rfl rfl ?_
  refine pr_put (j := 0) rfl hR rfl (fun M1 I2 hR3 hi4 hI5 => ?_)
  have hi6 := (hI5 18 (by decide)).trans hi18
  have hi7 := (hI5 51 (by decide)).trans hi51
  have hi8 := (hI5 52 (by decide)).trans hi52
  have hi9 := (hI5 53 (by decide)).trans hi53
  have hF_10 := hF.mono (pIx hI5 (by decide)) (fun _ _ => rfl)
  have hY_11 := hY.mono (pIx hI5 (by decide)) (fun _ _ => rfl)
  have hP_12 := hP.mono (pIx hI5 (by decide)) (fun _ _ => rfl)
  have hEI13 := hEI.put hI5 (by decide)
  show pl _ _ _ (5, [(0, .ref m0), (1, .int (nI j))], [], M1) _
  refine ps_st (S' := (6, [(0, .ref m0), (1, .int (nI j))], [.ref m0], M1)) rfl rfl rfl ?_
  refine pr_int (j := 18) (S' := (9, [(0, .ref m0), (1, .int (nI j))], [.int (nI n2)], M1)) rfl hR3 rfl hi6 rfl ?_
  refine ps_if (S1 := (14, [(0, .ref m0), (1, .int (nI j))], [], M1)) (S2 := (12, [(0, .ref m0), (1, .int (nI j))], [], M1)) rfl rfl rfl (fun c_9 => ?_) (fun c_9 => ?_)
  rotate_left
  · exact absurd ((le_nI (p := 0) (n := n2) (by decide) (by omega)).mpr (by omega)) (of_decide_eq_false c_9)
  refine ps_st (S' := (15, [(0, .ref m0), (1, .int (nI j))], [.ref m0], M1)) rfl rfl rfl ?_
  refine ps_st (S' := (16, [(0, .ref m0), (1, .int (nI j))], [.int (nI j), .ref m0], M1)) rfl rfl rfl ?_
  refine pl_call (a := [.ref m0, .int (nI j)]) (rest := []) rfl rfl rfl (rd_tag (n := n) (f := f) (tx := tx) (cN := cN) (A := A) (N := N) (mj := mj) (E := E) (k := j) hR3 hi7 hi8 hi9 hF_10 hY_11 hP_12 (hEP) (hN) (hmj) (by omega)) (fun v14 M15 q16 => ?_)
  obtain ⟨rfl, rfl⟩ := q16
  show pl _ _ _ (19, [(0, .ref m0), (1, .int (nI j))], [.int (nI (tg f E j))], M1) _
  have htg_16 := tg_lt f E j
  refine ps_st (S' := (20, [(2, .int (nI (tg f E j))), (0, .ref m0), (1, .int (nI j))], [], M1)) rfl rfl rfl ?_
  refine ps_st (S' := (21, [(2, .int (nI (tg f E j))), (0, .ref m0), (1, .int (nI j))], [.int (nI (tg f E j))], M1)) rfl rfl rfl ?_
  refine ps_st (S' := (22, [(2, .int (nI (tg f E j))), (0, .ref m0), (1, .int (nI j))], [.int 3, .int (nI (tg f E j))], M1)) rfl rfl rfl ?_
  refine ps_if2 (S1 := (30, [(0, .ref m0), (1, .int (nI j))], [], M1)) (S2 := (25, [(2, .int (nI (tg f E j))), (0, .ref m0), (1, .int (nI j))], [], M1)) rfl rfl rfl (fun c_22 => ?_) (fun c_22 => ?_)
  · have c_22 : (nI (tg f E j)) = 3 := of_decide_eq_true c_22
    have n_22 : tg f E j = 3 := (eq_nI (p := tg f E j) (n := 3) (Nat.lt_trans (tg_lt _ _ _) (by decide)) (by decide)).mp c_22
    refine ps_st (S' := (31, [(0, .ref m0), (1, .int (nI j))], [.ref m0], M1)) rfl rfl rfl ?_
    refine ps_st (S' := (32, [(0, .ref m0), (1, .int (nI j))], [.ref m0, .ref m0], M1)) rfl rfl rfl ?_
    refine pr_ref (j := 21) (S' := (35, [(0, .ref m0), (1, .int (nI j))], [.ref (q 21), .ref m0], M1)) rfl hR3 rfl rfl ?_
    refine ps_st (S' := (36, [(0, .ref m0), (1, .int (nI j))], [.int (nI j), .ref (q 21), .ref m0], M1)) rfl rfl rfl ?_
    refine pr_ld (a := 21) (j := j) (y := (nI p)) (S' := (37, [(0, .ref m0), (1, .int (nI j))], [.int (nI p), .ref m0], M1)) rfl hR3 rfl (by omega) (fun _ => (hP_12.at hk9).2.2) rfl (fun i1_36 => ?_)
    refine ps_st (S' := (38, [(0, .ref m0), (1, .int (nI j))], [.int 1, .int (nI p), .ref m0], M1)) rfl rfl rfl ?_
    refine ps_st (S' := (39, [(0, .ref m0), (1, .int (nI j))], [.int ((nI p) + 1), .ref m0], M1)) rfl rfl rfl ?_
    rw [nI_add1 (p := p) (k := 1) (x := 1) rfl (by omega)]
    show pl _ _ _ (_, [(0, .ref m0), (1, .int (nI j))], [.int (nI (p + 1)), .ref m0], M1) _
    refine pl_call (a := [.ref m0, .int (nI (p + 1))]) (rest := []) rfl rfl rfl (rd_u4 (n := n) (f := f) (p := (p + 1)) hR3 hF_10 (by omega)) (fun v17 M18 q19 => ?_)
    obtain ⟨rfl, rfl⟩ := q19
    show pl _ _ _ (42, [(0, .ref m0), (1, .int (nI j))], [.long (nL (by4 f (p + 1)))], M1) _
    have hu_39 := by4_lt f (p + 1)
    refine ps_st (S' := (43, [(0, .ref m0), (1, .int (nI j))], [.int (Int64.toInt32 (nL (by4 f (p + 1))))], M1)) rfl rfl rfl ?_
    refine ps_st (S' := (44, [(0, .ref m0), (1, .int (nI j))], [.long (Int32.toInt64 (Int64.toInt32 (nL (by4 f (p + 1)))))], M1)) rfl rfl rfl ?_
    exact ps_ret rfl rfl (⟨I2, R, by rw [l2i_all]; rfl, hR3, hEI13, hER, hi4⟩)
  · have c_22 : ¬ ((nI (tg f E j)) = 3) := of_decide_eq_false c_22
    have n_22 : ¬ (tg f E j = 3) := fun h9 => c_22 ((eq_nI (p := tg f E j) (n := 3) (Nat.lt_trans (tg_lt _ _ _) (by decide)) (by decide)).mpr h9)
    refine ps_st (S' := (26, [(2, .int (nI (tg f E j))), (0, .ref m0), (1, .int (nI j))], [.int (nI (tg f E j))], M1)) rfl rfl rfl ?_
    refine ps_st (S' := (27, [(2, .int (nI (tg f E j))), (0, .ref m0), (1, .int (nI j))], [.int 4, .int (nI (tg f E j))], M1)) rfl rfl rfl ?_
    refine ps_if2 (S1 := (45, [(2, .int (nI (tg f E j))), (0, .ref m0), (1, .int (nI j))], [], M1)) (S2 := (30, [(0, .ref m0), (1, .int (nI j))], [], M1)) rfl rfl rfl (fun c_27 => ?_) (fun c_27 => ?_)
    · exact absurd (of_decide_eq_true c_27) (fun h9 => h9 ((eq_nI (p := tg f E j) (n := 4) (Nat.lt_trans (tg_lt _ _ _) (by decide)) (by decide)).mpr (by omega)))
    refine ps_st (S' := (31, [(0, .ref m0), (1, .int (nI j))], [.ref m0], M1)) rfl rfl rfl ?_
    refine ps_st (S' := (32, [(0, .ref m0), (1, .int (nI j))], [.ref m0, .ref m0], M1)) rfl rfl rfl ?_
    refine pr_ref (j := 21) (S' := (35, [(0, .ref m0), (1, .int (nI j))], [.ref (q 21), .ref m0], M1)) rfl hR3 rfl rfl ?_
    refine ps_st (S' := (36, [(0, .ref m0), (1, .int (nI j))], [.int (nI j), .ref (q 21), .ref m0], M1)) rfl rfl rfl ?_
    refine pr_ld (a := 21) (j := j) (y := (nI p)) (S' := (37, [(0, .ref m0), (1, .int (nI j))], [.int (nI p), .ref m0], M1)) rfl hR3 rfl (by omega) (fun _ => (hP_12.at hk9).2.2) rfl (fun i1_36 => ?_)
    refine ps_st (S' := (38, [(0, .ref m0), (1, .int (nI j))], [.int 1, .int (nI p), .ref m0], M1)) rfl rfl rfl ?_
    refine ps_st (S' := (39, [(0, .ref m0), (1, .int (nI j))], [.int ((nI p) + 1), .ref m0], M1)) rfl rfl rfl ?_
    rw [nI_add1 (p := p) (k := 1) (x := 1) rfl (by omega)]
    show pl _ _ _ (_, [(0, .ref m0), (1, .int (nI j))], [.int (nI (p + 1)), .ref m0], M1) _
    refine pl_call (a := [.ref m0, .int (nI (p + 1))]) (rest := []) rfl rfl rfl (rd_u4 (n := n) (f := f) (p := (p + 1)) hR3 hF_10 (by omega)) (fun v20 M21 q22 => ?_)
    obtain ⟨rfl, rfl⟩ := q22
    show pl _ _ _ (42, [(0, .ref m0), (1, .int (nI j))], [.long (nL (by4 f (p + 1)))], M1) _
    have hu_39 := by4_lt f (p + 1)
    refine ps_st (S' := (43, [(0, .ref m0), (1, .int (nI j))], [.int (Int64.toInt32 (nL (by4 f (p + 1))))], M1)) rfl rfl rfl ?_
    refine ps_st (S' := (44, [(0, .ref m0), (1, .int (nI j))], [.long (Int32.toInt64 (Int64.toInt32 (nL (by4 f (p + 1)))))], M1)) rfl rfl rfl ?_
    exact ps_ret rfl rfl (⟨I2, R, by rw [l2i_all]; rfl, hR3, hEI13, hER, hi4⟩)
set_option maxHeartbeats 1000000 in
theorem rd_bits8 {g : xe_G} {m0 : Nat} {q : Nat → Nat} {z : Nat × Nat} {I : rI} {R : rR} {M : mi_H} {n : Nat} {f : Nat → Int32} {tx : List (List Nat)} {cN : Nat} {A : Nat → Nat} {N mj : Nat} {E : List (Nat × Nat)} {n2 : Nat} {j p : Nat} (hR : RS g m0 q z I R M) (hi18 : I 18 = some (nI n2)) (hi51 : I 51 = some 0) (hi52 : I 52 = some (nI N)) (hi53 : I 53 = some (nI mj)) (hF : FK n f I R) (hY : SYT tx cN A I R) (hP : RPV f n E tx N I R) (hEP : EP f n E) (hN : N < 65536) (hmj : mj < 65536) (hn2 : n2 ≤ 65540) (hj : j < 65536) (hk9 : lk E j = some p) (htt : tg f E j = 5 ∨ tg f E j = 6) (hin : p + 9 ≤ n) : pt (mT g) 183 [.ref m0, .int (nI j)] M (fun v M' => (∃  (I' : rI) (R' : rR), v = some (.long (bL8 f p)) ∧ RS g m0 q z I' R' M' ∧ eqI [0] I I' ∧ eqR [] R R' ∧ I' 0 = some 0)) := by
  refine pt_in (b := mb_183 g) rfl (fun kf => ?_)
  show pl (mT g) kf (mb_183 g).2 (0, [(0, .ref m0), (1, .int (nI j))], [], M) _
  have hEI : eqI [0] I I := eqI.rf
  have hER : eqR [] R R := eqR.rf
  have hn := hF.1
  have htl9 := tg_lt f E j
  refine ps_st (S' := (1, [(0, .ref m0), (1, .int (nI j))], [.ref m0], M)) rfl rfl rfl ?_
  refine ps_st (S' := (2, [(0, .ref m0), (1, .int (nI j))], [.int 0, .ref m0], M)) rfl rfl rfl ?_
  refine pr_put (j := 0) rfl hR rfl (fun M1 I2 hR3 hi4 hI5 => ?_)
  have hi6 := (hI5 18 (by decide)).trans hi18
  have hi7 := (hI5 51 (by decide)).trans hi51
  have hi8 := (hI5 52 (by decide)).trans hi52
  have hi9 := (hI5 53 (by decide)).trans hi53
  have hF_10 := hF.mono (pIx hI5 (by decide)) (fun _ _ => rfl)
  have hY_11 := hY.mono (pIx hI5 (by decide)) (fun _ _ => rfl)
  have hP_12 := hP.mono (pIx hI5 (by decide)) (fun _ _ => rfl)
  have hEI13 := hEI.put hI5 (by decide)
  show pl _ _ _ (5, [(0, .ref m0), (1, .int (nI j))], [], M1) _
  refine ps_st (S' := (6, [(0, .ref m0), (1, .int (nI j))], [.ref m0], M1)) rfl rfl rfl ?_
  refine pr_int (j := 18) (S' := (9, [(0, .ref m0), (1, .int (nI j))], [.int (nI n2)], M1)) rfl hR3 rfl hi6 rfl ?_
  refine ps_if (S1 := (14, [(0, .ref m0), (1, .int (nI j))], [], M1)) (S2 := (12, [(0, .ref m0), (1, .int (nI j))], [], M1)) rfl rfl rfl (fun c_9 => ?_) (fun c_9 => ?_)
  rotate_left
  · exact absurd ((le_nI (p := 0) (n := n2) (by decide) (by omega)).mpr (by omega)) (of_decide_eq_false c_9)
  refine ps_st (S' := (15, [(0, .ref m0), (1, .int (nI j))], [.ref m0], M1)) rfl rfl rfl ?_
  refine ps_st (S' := (16, [(0, .ref m0), (1, .int (nI j))], [.int (nI j), .ref m0], M1)) rfl rfl rfl ?_
  refine pl_call (a := [.ref m0, .int (nI j)]) (rest := []) rfl rfl rfl (rd_tag (n := n) (f := f) (tx := tx) (cN := cN) (A := A) (N := N) (mj := mj) (E := E) (k := j) hR3 hi7 hi8 hi9 hF_10 hY_11 hP_12 (hEP) (hN) (hmj) (by omega)) (fun v14 M15 q16 => ?_)
  obtain ⟨rfl, rfl⟩ := q16
  show pl _ _ _ (19, [(0, .ref m0), (1, .int (nI j))], [.int (nI (tg f E j))], M1) _
  have htg_16 := tg_lt f E j
  refine ps_st (S' := (20, [(2, .int (nI (tg f E j))), (0, .ref m0), (1, .int (nI j))], [], M1)) rfl rfl rfl ?_
  refine ps_st (S' := (21, [(2, .int (nI (tg f E j))), (0, .ref m0), (1, .int (nI j))], [.int (nI (tg f E j))], M1)) rfl rfl rfl ?_
  refine ps_st (S' := (22, [(2, .int (nI (tg f E j))), (0, .ref m0), (1, .int (nI j))], [.int 3, .int (nI (tg f E j))], M1)) rfl rfl rfl ?_
  refine ps_if2 (S1 := (30, [(0, .ref m0), (1, .int (nI j))], [], M1)) (S2 := (25, [(2, .int (nI (tg f E j))), (0, .ref m0), (1, .int (nI j))], [], M1)) rfl rfl rfl (fun c_22 => ?_) (fun c_22 => ?_)
  · exact absurd (of_decide_eq_true c_22) (show ¬ ((nI (tg f E j)) = 3) from fun h9 => absurd ((eq_nI (p := tg f E j) (n := 3) (Nat.lt_trans (tg_lt _ _ _) (by decide)) (by decide)).mp h9) (by omega))
  refine ps_st (S' := (26, [(2, .int (nI (tg f E j))), (0, .ref m0), (1, .int (nI j))], [.int (nI (tg f E j))], M1)) rfl rfl rfl ?_
  refine ps_st (S' := (27, [(2, .int (nI (tg f E j))), (0, .ref m0), (1, .int (nI j))], [.int 4, .int (nI (tg f E j))], M1)) rfl rfl rfl ?_
  refine ps_if2 (S1 := (45, [(2, .int (nI (tg f E j))), (0, .ref m0), (1, .int (nI j))], [], M1)) (S2 := (30, [(0, .ref m0), (1, .int (nI j))], [], M1)) rfl rfl rfl (fun c_27 => ?_) (fun c_27 => ?_)
  rotate_left
  · exact absurd (show ¬ ((nI (tg f E j)) = 4) from fun h9 => absurd ((eq_nI (p := tg f E j) (n := 4) (Nat.lt_trans (tg_lt _ _ _) (by decide)) (by decide)).mp h9) (by omega)) (of_decide_eq_false c_27)
  refine ps_st (S' := (46, [(2, .int (nI (tg f E j))), (0, .ref m0), (1, .int (nI j))], [.int (nI (tg f E j))], M1)) rfl rfl rfl ?_
  refine ps_st (S' := (47, [(2, .int (nI (tg f E j))), (0, .ref m0), (1, .int (nI j))], [.int 5, .int (nI (tg f E j))], M1)) rfl rfl rfl ?_
  refine ps_if2 (S1 := (56, [(0, .ref m0), (1, .int (nI j))], [], M1)) (S2 := (50, [(2, .int (nI (tg f E j))), (0, .ref m0), (1, .int (nI j))], [], M1)) rfl rfl rfl (fun c_47 => ?_) (fun c_47 => ?_)
  · have c_47 : (nI (tg f E j)) = 5 := of_decide_eq_true c_47
    have n_47 : tg f E j = 5 := (eq_nI (p := tg f E j) (n := 5) (Nat.lt_trans (tg_lt _ _ _) (by decide)) (by decide)).mp c_47
    refine ps_st (S' := (57, [(0, .ref m0), (1, .int (nI j))], [.ref m0], M1)) rfl rfl rfl ?_
    refine ps_st (S' := (58, [(0, .ref m0), (1, .int (nI j))], [.ref m0, .ref m0], M1)) rfl rfl rfl ?_
    refine pr_ref (j := 21) (S' := (61, [(0, .ref m0), (1, .int (nI j))], [.ref (q 21), .ref m0], M1)) rfl hR3 rfl rfl ?_
    refine ps_st (S' := (62, [(0, .ref m0), (1, .int (nI j))], [.int (nI j), .ref (q 21), .ref m0], M1)) rfl rfl rfl ?_
    refine pr_ld (a := 21) (j := j) (y := (nI p)) (S' := (63, [(0, .ref m0), (1, .int (nI j))], [.int (nI p), .ref m0], M1)) rfl hR3 rfl (by omega) (fun _ => (hP_12.at hk9).2.2) rfl (fun i1_62 => ?_)
    refine ps_st (S' := (64, [(0, .ref m0), (1, .int (nI j))], [.int 1, .int (nI p), .ref m0], M1)) rfl rfl rfl ?_
    refine ps_st (S' := (65, [(0, .ref m0), (1, .int (nI j))], [.int ((nI p) + 1), .ref m0], M1)) rfl rfl rfl ?_
    rw [nI_add1 (p := p) (k := 1) (x := 1) rfl (by omega)]
    show pl _ _ _ (_, [(0, .ref m0), (1, .int (nI j))], [.int (nI (p + 1)), .ref m0], M1) _
    refine pl_call (a := [.ref m0, .int (nI (p + 1))]) (rest := []) rfl rfl rfl (rd_u4 (n := n) (f := f) (p := (p + 1)) hR3 hF_10 (by omega)) (fun v17 M18 q19 => ?_)
    obtain ⟨rfl, rfl⟩ := q19
    show pl _ _ _ (68, [(0, .ref m0), (1, .int (nI j))], [.long (nL (by4 f (p + 1)))], M1) _
    have hu_65 := by4_lt f (p + 1)
    refine ps_st (S' := (70, [(0, .ref m0), (1, .int (nI j))], [.int 32, .long (nL (by4 f (p + 1)))], M1)) rfl rfl rfl ?_
    refine ps_st (S' := (71, [(0, .ref m0), (1, .int (nI j))], [.long ((nL (by4 f (p + 1))) <<< (Int32.toInt64 32 &&& 63))], M1)) rfl rfl rfl ?_
    refine ps_st (S' := (72, [(0, .ref m0), (1, .int (nI j))], [.ref m0, .long ((nL (by4 f (p + 1))) <<< (Int32.toInt64 32 &&& 63))], M1)) rfl rfl rfl ?_
    refine ps_st (S' := (73, [(0, .ref m0), (1, .int (nI j))], [.ref m0, .ref m0, .long ((nL (by4 f (p + 1))) <<< (Int32.toInt64 32 &&& 63))], M1)) rfl rfl rfl ?_
    refine pr_ref (j := 21) (S' := (76, [(0, .ref m0), (1, .int (nI j))], [.ref (q 21), .ref m0, .long ((nL (by4 f (p + 1))) <<< (Int32.toInt64 32 &&& 63))], M1)) rfl hR3 rfl rfl ?_
    refine ps_st (S' := (77, [(0, .ref m0), (1, .int (nI j))], [.int (nI j), .ref (q 21), .ref m0, .long ((nL (by4 f (p + 1))) <<< (Int32.toInt64 32 &&& 63))], M1)) rfl rfl rfl ?_
    refine pr_ld (a := 21) (j := j) (y := (nI p)) (S' := (78, [(0, .ref m0), (1, .int (nI j))], [.int (nI p), .ref m0, .long ((nL (by4 f (p + 1))) <<< (Int32.toInt64 32 &&& 63))], M1)) rfl hR3 rfl (by omega) (fun _ => (hP_12.at hk9).2.2) rfl (fun i1_77 => ?_)
    refine ps_st (S' := (79, [(0, .ref m0), (1, .int (nI j))], [.int 5, .int (nI p), .ref m0, .long ((nL (by4 f (p + 1))) <<< (Int32.toInt64 32 &&& 63))], M1)) rfl rfl rfl ?_
    refine ps_st (S' := (80, [(0, .ref m0), (1, .int (nI j))], [.int ((nI p) + 5), .ref m0, .long ((nL (by4 f (p + 1))) <<< (Int32.toInt64 32 &&& 63))], M1)) rfl rfl rfl ?_
    rw [nI_add1 (p := p) (k := 5) (x := 5) rfl (by omega)]
    show pl _ _ _ (_, [(0, .ref m0), (1, .int (nI j))], [.int (nI (p + 5)), .ref m0, .long ((nL (by4 f (p + 1))) <<< (Int32.toInt64 32 &&& 63))], M1) _
    refine pl_call (a := [.ref m0, .int (nI (p + 5))]) (rest := [.long ((nL (by4 f (p + 1))) <<< (Int32.toInt64 32 &&& 63))]) rfl rfl rfl (rd_u4 (n := n) (f := f) (p := (p + 5)) hR3 hF_10 (by omega)) (fun v20 M21 q22 => ?_)
    obtain ⟨rfl, rfl⟩ := q22
    show pl _ _ _ (83, [(0, .ref m0), (1, .int (nI j))], [.long (nL (by4 f (p + 5))), .long ((nL (by4 f (p + 1))) <<< (Int32.toInt64 32 &&& 63))], M1) _
    have hu_80 := by4_lt f (p + 5)
    refine ps_st (S' := (84, [(0, .ref m0), (1, .int (nI j))], [.long (((nL (by4 f (p + 1))) <<< (Int32.toInt64 32 &&& 63)) ||| (nL (by4 f (p + 5))))], M1)) rfl rfl rfl ?_
    exact ps_ret rfl rfl (⟨I2, R, rfl, hR3, hEI13, hER, hi4⟩)
  · have c_47 : ¬ ((nI (tg f E j)) = 5) := of_decide_eq_false c_47
    have n_47 : ¬ (tg f E j = 5) := fun h9 => c_47 ((eq_nI (p := tg f E j) (n := 5) (Nat.lt_trans (tg_lt _ _ _) (by decide)) (by decide)).mpr h9)
    refine ps_st (S' := (51, [(2, .int (nI (tg f E j))), (0, .ref m0), (1, .int (nI j))], [.int (nI (tg f E j))], M1)) rfl rfl rfl ?_
    refine ps_st (S' := (53, [(2, .int (nI (tg f E j))), (0, .ref m0), (1, .int (nI j))], [.int 6, .int (nI (tg f E j))], M1)) rfl rfl rfl ?_
    refine ps_if2 (S1 := (85, [(2, .int (nI (tg f E j))), (0, .ref m0), (1, .int (nI j))], [], M1)) (S2 := (56, [(0, .ref m0), (1, .int (nI j))], [], M1)) rfl rfl rfl (fun c_53 => ?_) (fun c_53 => ?_)
    · exact absurd (of_decide_eq_true c_53) (fun h9 => h9 ((eq_nI (p := tg f E j) (n := 6) (Nat.lt_trans (tg_lt _ _ _) (by decide)) (by decide)).mpr (by omega)))
    refine ps_st (S' := (57, [(0, .ref m0), (1, .int (nI j))], [.ref m0], M1)) rfl rfl rfl ?_
    refine ps_st (S' := (58, [(0, .ref m0), (1, .int (nI j))], [.ref m0, .ref m0], M1)) rfl rfl rfl ?_
    refine pr_ref (j := 21) (S' := (61, [(0, .ref m0), (1, .int (nI j))], [.ref (q 21), .ref m0], M1)) rfl hR3 rfl rfl ?_
    refine ps_st (S' := (62, [(0, .ref m0), (1, .int (nI j))], [.int (nI j), .ref (q 21), .ref m0], M1)) rfl rfl rfl ?_
    refine pr_ld (a := 21) (j := j) (y := (nI p)) (S' := (63, [(0, .ref m0), (1, .int (nI j))], [.int (nI p), .ref m0], M1)) rfl hR3 rfl (by omega) (fun _ => (hP_12.at hk9).2.2) rfl (fun i1_62 => ?_)
    refine ps_st (S' := (64, [(0, .ref m0), (1, .int (nI j))], [.int 1, .int (nI p), .ref m0], M1)) rfl rfl rfl ?_
    refine ps_st (S' := (65, [(0, .ref m0), (1, .int (nI j))], [.int ((nI p) + 1), .ref m0], M1)) rfl rfl rfl ?_
    rw [nI_add1 (p := p) (k := 1) (x := 1) rfl (by omega)]
    show pl _ _ _ (_, [(0, .ref m0), (1, .int (nI j))], [.int (nI (p + 1)), .ref m0], M1) _
    refine pl_call (a := [.ref m0, .int (nI (p + 1))]) (rest := []) rfl rfl rfl (rd_u4 (n := n) (f := f) (p := (p + 1)) hR3 hF_10 (by omega)) (fun v23 M24 q25 => ?_)
    obtain ⟨rfl, rfl⟩ := q25
    show pl _ _ _ (68, [(0, .ref m0), (1, .int (nI j))], [.long (nL (by4 f (p + 1)))], M1) _
    have hu_65 := by4_lt f (p + 1)
    refine ps_st (S' := (70, [(0, .ref m0), (1, .int (nI j))], [.int 32, .long (nL (by4 f (p + 1)))], M1)) rfl rfl rfl ?_
    refine ps_st (S' := (71, [(0, .ref m0), (1, .int (nI j))], [.long ((nL (by4 f (p + 1))) <<< (Int32.toInt64 32 &&& 63))], M1)) rfl rfl rfl ?_
    refine ps_st (S' := (72, [(0, .ref m0), (1, .int (nI j))], [.ref m0, .long ((nL (by4 f (p + 1))) <<< (Int32.toInt64 32 &&& 63))], M1)) rfl rfl rfl ?_
    refine ps_st (S' := (73, [(0, .ref m0), (1, .int (nI j))], [.ref m0, .ref m0, .long ((nL (by4 f (p + 1))) <<< (Int32.toInt64 32 &&& 63))], M1)) rfl rfl rfl ?_
    refine pr_ref (j := 21) (S' := (76, [(0, .ref m0), (1, .int (nI j))], [.ref (q 21), .ref m0, .long ((nL (by4 f (p + 1))) <<< (Int32.toInt64 32 &&& 63))], M1)) rfl hR3 rfl rfl ?_
    refine ps_st (S' := (77, [(0, .ref m0), (1, .int (nI j))], [.int (nI j), .ref (q 21), .ref m0, .long ((nL (by4 f (p + 1))) <<< (Int32.toInt64 32 &&& 63))], M1)) rfl rfl rfl ?_
    refine pr_ld (a := 21) (j := j) (y := (nI p)) (S' := (78, [(0, .ref m0), (1, .int (nI j))], [.int (nI p), .ref m0, .long ((nL (by4 f (p + 1))) <<< (Int32.toInt64 32 &&& 63))], M1)) rfl hR3 rfl (by omega) (fun _ => (hP_12.at hk9).2.2) rfl (fun i1_77 => ?_)
    refine ps_st (S' := (79, [(0, .ref m0), (1, .int (nI j))], [.int 5, .int (nI p), .ref m0, .long ((nL (by4 f (p + 1))) <<< (Int32.toInt64 32 &&& 63))], M1)) rfl rfl rfl ?_
    refine ps_st (S' := (80, [(0, .ref m0), (1, .int (nI j))], [.int ((nI p) + 5), .ref m0, .long ((nL (by4 f (p + 1))) <<< (Int32.toInt64 32 &&& 63))], M1)) rfl rfl rfl ?_
    rw [nI_add1 (p := p) (k := 5) (x := 5) rfl (by omega)]
    show pl _ _ _ (_, [(0, .ref m0), (1, .int (nI j))], [.int (nI (p + 5)), .ref m0, .long ((nL (by4 f (p + 1))) <<< (Int32.toInt64 32 &&& 63))], M1) _
    refine pl_call (a := [.ref m0, .int (nI (p + 5))]) (rest := [.long ((nL (by4 f (p + 1))) <<< (Int32.toInt64 32 &&& 63))]) rfl rfl rfl (rd_u4 (n := n) (f := f) (p := (p + 5)) hR3 hF_10 (by omega)) (fun v26 M27 q28 => ?_)
    obtain ⟨rfl, rfl⟩ := q28
    show pl _ _ _ (83, [(0, .ref m0), (1, .int (nI j))], [.long (nL (by4 f (p + 5))), .long ((nL (by4 f (p + 1))) <<< (Int32.toInt64 32 &&& 63))], M1) _
    have hu_80 := by4_lt f (p + 5)
    refine ps_st (S' := (84, [(0, .ref m0), (1, .int (nI j))], [.long (((nL (by4 f (p + 1))) <<< (Int32.toInt64 32 &&& 63)) ||| (nL (by4 f (p + 5))))], M1)) rfl rfl rfl ?_
    exact ps_ret rfl rfl (⟨I2, R, rfl, hR3, hEI13, hER, hi4⟩)
theorem rd_bits {g : xe_G} {m0 : Nat} {q : Nat → Nat} {z : Nat × Nat} {I : rI} {R : rR} {M : mi_H} {ko : Option (Nat × (Nat → Int32))} {k : Int32} (hR : RS g m0 q z I R M) (hK : KPR ko I R) : pt (mT g) 183 [.ref m0, .int k] M (fun v M' => ∃ (I' : rI) (R' : rR), v = some (.long (biK ko k)) ∧ RS g m0 q z I' R' M' ∧ eqI [0] I I' ∧ eqR [] R R' ∧ I' 0 = some 0) := by
  cases ko with
  | none =>
    obtain ⟨kn, h1, h2⟩ := hK
    exact rd_bits0 hR h1 h2
  | some r =>
    obtain ⟨h1, h2, -, -, tx, cN, A, E, N, mj, p1, pF, pM, pA, k1, k2, k3, k4, k5, k6, k7, rfl, rfl, -⟩ := hK
    rw [biK_is k7]
    have hN := by2_lt r.2 8
    have hpl := whole_in k7
    have hEP := (EP_of hpl).1
    have h0 := tg_0 hpl
    by_cases ht : 3 ≤ tg r.2 E k.toNatClampNeg ∧ tg r.2 E k.toNatClampNeg ≤ 6
    · have hk0 : ¬ k < 0 := fun h9 => by rw [i32_cl h9, h0] at ht; omega
      have e := i32_nn hk0
      unfold biI
      obtain ⟨j, ej⟩ : ∃ j, j = k.toNatClampNeg := ⟨_, rfl⟩
      rw [← ej] at e ht ⊢
      have hj : j < 65536 := Nat.not_le.mp (fun h9 => by
        unfold tg at ht
        rw [lk_hi k3.1 (Or.inr (by omega))] at ht
        dsimp only at ht
        omega)
      subst e
      obtain ⟨p, hk9, hb9⟩ := tg_lk (f := r.2) (E := E) (k := j) (by omega)
      obtain ⟨u1, u2⟩ := nums_of hpl hk9
      rw [plc_of hk9]
      by_cases h34 : tg r.2 E j = 3 ∨ tg r.2 E j = 4
      · rw [if_pos h34]
        exact rd_bits4 hR h1 k4 k5 k6 k1 k2 k3 hEP hN (by2_lt _ _) h2 hj hk9 h34 (u1 (by omega))
      · have h56 : tg r.2 E j = 5 ∨ tg r.2 E j = 6 := by omega
        rw [if_neg h34, if_pos h56]
        exact rd_bits8 hR h1 k4 k5 k6 k1 k2 k3 hEP hN (by2_lt _ _) h2 hj hk9 h56 (u2 (by omega))
    · have e : biI r.2 E k = 0 := by
        unfold biI
        rw [if_neg (by omega), if_neg (by omega)]
      rw [e]
      exact rd_bitsT hR h1 k4 k5 k6 k1 k2 k3 hEP hN (by2_lt _ _) h2 h0 ht
