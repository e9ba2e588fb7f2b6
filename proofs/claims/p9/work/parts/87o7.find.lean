set_option maxHeartbeats 1000000 in
theorem rd_find0 {g : xe_G} {m0 : Nat} {q : Nat → Nat} {z : Nat × Nat} {I : rI} {R : rR} {M : mi_H} {kn t x y : Int32} (hR : RS g m0 q z I R M) (hi18 : I 18 = some kn)  (hk : kn < 0) : pt (mT g) 207 [.ref m0, .int t, .int x, .int y] M (fun v M' => (∃  (I' : rI) (R' : rR), v = some (.int (-1)) ∧ RS g m0 q z I' R' M' ∧ eqI [0] I I' ∧ eqR [] R R' ∧ I' 0 = some 0)) := by
  refine pt_in (b := mb_207 g) rfl (fun kf => ?_)
  show pl (mT g) kf (mb_207 g).2 (0, [(0, .ref m0), (1, .int t), (2, .int x), (3, .int y)], [], M) _
  have hEI : eqI [0] I I := eqI.rf
  have hER : eqR [] R R := eqR.rf
  refine ps_st (S' := (1, [(0, .ref m0), (1, .int t), (2, .int x), (3, .int y)], [.ref m0], M)) rfl rfl rfl ?_
  refine ps_st (S' := (2, [(0, .ref m0), (1, .int t), (2, .int x), (3, .int y)], [.int 0, .ref m0], M)) rfl rfl rfl ?_
  refine pr_put (j := 0) rfl hR rfl (fun M1 I2 hR3 hi4 hI5 => ?_)
  have hi6 := (hI5 18 (by decide)).trans hi18
  have hEI7 := hEI.put hI5 (by decide)
  show pl _ _ _ (5, [(0, .ref m0), (1, .int t), (2, .int x), (3, .int y)], [], M1) _
  refine ps_st (S' := (6, [(0, .ref m0), (1, .int t), (2, .int x), (3, .int y)], [.ref m0], M1)) rfl rfl rfl ?_
  refine pr_int (j := 18) (S' := (9, [(0, .ref m0), (1, .int t), (2, .int x), (3, .int y)], [.int kn], M1)) rfl hR3 rfl hi6 rfl ?_
  refine ps_if (S1 := (30, [], [], M1)) (S2 := (12, [(0, .ref m0), (1, .int t), (2, .int x), (3, .int y)], [], M1)) rfl rfl rfl (fun c_9 => ?_) (fun c_9 => ?_)
  rotate_left
  · exact absurd (hk) (of_decide_eq_false c_9)
  refine ps_st (S' := (31, [], [.int (-1)], M1)) rfl rfl rfl ?_
  exact ps_ret rfl rfl (⟨I2, R, rfl, hR3, hEI7, hER, hi4⟩)
set_option maxHeartbeats 1000000 in
theorem rd_findA {g : xe_G} {m0 : Nat} {q : Nat → Nat} {z : Nat × Nat} {I : rI} {R : rR} {M : mi_H} {n : Nat} {f : Nat → Int32} {tx : List (List Nat)} {cN : Nat} {A : Nat → Nat} {N mj : Nat} {E : List (Nat × Nat)} {n2 : Nat} {t x y : Int32} (hR : RS g m0 q z I R M) (hi18 : I 18 = some (nI n2)) (hi51 : I 51 = some 0) (hi52 : I 52 = some (nI N)) (hi53 : I 53 = some (nI mj)) (hF : FK n f I R) (hY : SYT tx cN A I R) (hP : RPV f n E tx N I R) (hEP : EP f n E) (hN : N < 65536) (hmj : mj < 65536) (hn2 : n2 ≤ 65540) (h0 : tg f E 0 = 0) (ht : ¬ tg f E x.toNatClampNeg = 1) : pt (mT g) 207 [.ref m0, .int t, .int x, .int y] M (fun v M' => (∃  (I' : rI) (R' : rR), v = some (.int (-1)) ∧ RS g m0 q z I' R' M' ∧ eqI [0] I I' ∧ eqR [] R R' ∧ I' 0 = some 0)) := by
  refine pt_in (b := mb_207 g) rfl (fun kf => ?_)
  show pl (mT g) kf (mb_207 g).2 (0, [(0, .ref m0), (1, .int t), (2, .int x), (3, .int y)], [], M) _
  have hEI : eqI [0] I I := eqI.rf
  have hER : eqR [] R R := eqR.rf
  refine ps_st (S' := (1, [(0, .ref m0), (1, .int t), (2, .int x), (3, .int y)], [.ref m0], M)) rfl rfl rfl ?_
  refine ps_st (S' := (2, [(0, .ref m0), (1, .int t), (2, .int x), (3, .int y)], [.int 0, .ref m0], M)) rfl rfl rfl ?_
  refine pr_put (j := 0) rfl hR rfl (fun M1 I2 hR3 hi4 hI5 => ?_)
  have hi6 := (hI5 18 (by decide)).trans hi18
  have hi7 := (hI5 51 (by decide)).trans hi51
  have hi8 := (hI5 52 (by decide)).trans hi52
  have hi9 := (hI5 53 (by decide)).trans hi53
  have hF_10 := hF.mono (pIx hI5 (by decide)) (fun _ _ => rfl)
  have hY_11 := hY.mono (pIx hI5 (by decide)) (fun _ _ => rfl)
  have hP_12 := hP.mono (pIx hI5 (by decide)) (fun _ _ => rfl)
  have hEI13 := hEI.put hI5 (by decide)
  show pl _ _ _ (5, [(0, .ref m0), (1, .int t), (2, .int x), (3, .int y)], [], M1) _
  refine ps_st (S' := (6, [(0, .ref m0), (1, .int t), (2, .int x), (3, .int y)], [.ref m0], M1)) rfl rfl rfl ?_
  refine pr_int (j := 18) (S' := (9, [(0, .ref m0), (1, .int t), (2, .int x), (3, .int y)], [.int (nI n2)], M1)) rfl hR3 rfl hi6 rfl ?_
  refine ps_if (S1 := (30, [], [], M1)) (S2 := (12, [(0, .ref m0), (1, .int t), (2, .int x), (3, .int y)], [], M1)) rfl rfl rfl (fun c_9 => ?_) (fun c_9 => ?_)
  · exact absurd (of_decide_eq_true c_9) (show ¬ ((nI n2) < 0) from fun h9 => absurd ((lt_nI (p := n2) (n := 0) (by omega) (by decide)).mp h9) (by omega))
  refine ps_st (S' := (13, [(0, .ref m0), (1, .int t), (2, .int x), (3, .int y)], [.ref m0], M1)) rfl rfl rfl ?_
  refine ps_st (S' := (14, [(0, .ref m0), (1, .int t), (2, .int x), (3, .int y)], [.int x, .ref m0], M1)) rfl rfl rfl ?_
  refine pl_call (a := [.ref m0, .int x]) (rest := []) rfl rfl rfl (rd_tagR (n := n) (f := f) (tx := tx) (cN := cN) (A := A) (N := N) (mj := mj) (E := E) (k := x) hR3 hi7 hi8 hi9 hF_10 hY_11 hP_12 (hEP) (hN) (hmj) (h0)) (fun v14 M15 q16 => ?_)
  obtain ⟨rfl, rfl⟩ := q16
  show pl _ _ _ (17, [(0, .ref m0), (1, .int t), (2, .int x), (3, .int y)], [.int (nI (tg f E x.toNatClampNeg))], M1) _
  refine ps_st (S' := (18, [(0, .ref m0), (1, .int t), (2, .int x), (3, .int y)], [.int 1, .int (nI (tg f E x.toNatClampNeg))], M1)) rfl rfl rfl ?_
  refine ps_if2 (S1 := (30, [], [], M1)) (S2 := (21, [(0, .ref m0), (1, .int t), (2, .int x), (3, .int y)], [], M1)) rfl rfl rfl (fun c_18 => ?_) (fun c_18 => ?_)
  rotate_left
  · exact absurd (show ¬ (nI (tg f E x.toNatClampNeg)) = 1 from fun h9 => ht ((eq_nI (p := tg f E x.toNatClampNeg) (n := 1) (Nat.lt_trans (tg_lt _ _ _) (by decide)) (by decide)).mp h9)) (of_decide_eq_false c_18)
  refine ps_st (S' := (31, [], [.int (-1)], M1)) rfl rfl rfl ?_
  exact ps_ret rfl rfl (⟨I2, R, rfl, hR3, hEI13, hER, hi4⟩)
set_option maxHeartbeats 1000000 in
theorem rd_findB {g : xe_G} {m0 : Nat} {q : Nat → Nat} {z : Nat × Nat} {I : rI} {R : rR} {M : mi_H} {n : Nat} {f : Nat → Int32} {tx : List (List Nat)} {cN : Nat} {A : Nat → Nat} {N mj : Nat} {E : List (Nat × Nat)} {n2 : Nat} {t x y : Int32} (hR : RS g m0 q z I R M) (hi18 : I 18 = some (nI n2)) (hi51 : I 51 = some 0) (hi52 : I 52 = some (nI N)) (hi53 : I 53 = some (nI mj)) (hF : FK n f I R) (hY : SYT tx cN A I R) (hP : RPV f n E tx N I R) (hEP : EP f n E) (hN : N < 65536) (hmj : mj < 65536) (hn2 : n2 ≤ 65540) (h0 : tg f E 0 = 0) (hx : tg f E x.toNatClampNeg = 1) (ht : ¬ tg f E y.toNatClampNeg = 1) : pt (mT g) 207 [.ref m0, .int t, .int x, .int y] M (fun v M' => (∃  (I' : rI) (R' : rR), v = some (.int (-1)) ∧ RS g m0 q z I' R' M' ∧ eqI [0] I I' ∧ eqR [] R R' ∧ I' 0 = some 0)) := by
  refine pt_in (b := mb_207 g) rfl (fun kf => ?_)
  show pl (mT g) kf (mb_207 g).2 (0, [(0, .ref m0), (1, .int t), (2, .int x), (3, .int y)], [], M) _
  have hEI : eqI [0] I I := eqI.rf
  have hER : eqR [] R R := eqR.rf
  refine ps_st (S' := (1, [(0, .ref m0), (1, .int t), (2, .int x), (3, .int y)], [.ref m0], M)) rfl rfl rfl ?_
  refine ps_st (S' := (2, [(0, .ref m0), (1, .int t), (2, .int x), (3, .int y)], [.int 0, .ref m0], M)) rfl rfl rfl ?_
  refine pr_put (j := 0) rfl hR rfl (fun M1 I2 hR3 hi4 hI5 => ?_)
  have hi6 := (hI5 18 (by decide)).trans hi18
  have hi7 := (hI5 51 (by decide)).trans hi51
  have hi8 := (hI5 52 (by decide)).trans hi52
  have hi9 := (hI5 53 (by decide)).trans hi53
  have hF_10 := hF.mono (pIx hI5 (by decide)) (fun _ _ => rfl)
  have hY_11 := hY.mono (pIx hI5 (by decide)) (fun _ _ => rfl)
  have hP_12 := hP.mono (pIx hI5 (by decide)) (fun _ _ => rfl)
  have hEI13 := hEI.put hI5 (by decide)
  show pl _ _ _ (5, [(0, .ref m0), (1, .int t), (2, .int x), (3, .int y)], [], M1) _
  refine ps_st (S' := (6, [(0, .ref m0), (1, .int t), (2, .int x), (3, .int y)], [.ref m0], M1)) rfl rfl rfl ?_
  refine pr_int (j := 18) (S' := (9, [(0, .ref m0), (1, .int t), (2, .int x), (3, .int y)], [.int (nI n2)], M1)) rfl hR3 rfl hi6 rfl ?_
  refine ps_if (S1 := (30, [], [], M1)) (S2 := (12, [(0, .ref m0), (1, .int t), (2, .int x), (3, .int y)], [], M1)) rfl rfl rfl (fun c_9 => ?_) (fun c_9 => ?_)
  · exact absurd (of_decide_eq_true c_9) (show ¬ ((nI n2) < 0) from fun h9 => absurd ((lt_nI (p := n2) (n := 0) (by omega) (by decide)).mp h9) (by omega))
  refine ps_st (S' := (13, [(0, .ref m0), (1, .int t), (2, .int x), (3, .int y)], [.ref m0], M1)) rfl rfl rfl ?_
  refine ps_st (S' := (14, [(0, .ref m0), (1, .int t), (2, .int x), (3, .int y)], [.int x, .ref m0], M1)) rfl rfl rfl ?_
  refine pl_call (a := [.ref m0, .int x]) (rest := []) rfl rfl rfl (rd_tagR (n := n) (f := f) (tx := tx) (cN := cN) (A := A) (N := N) (mj := mj) (E := E) (k := x) hR3 hi7 hi8 hi9 hF_10 hY_11 hP_12 (hEP) (hN) (hmj) (h0)) (fun v14 M15 q16 => ?_)
  obtain ⟨rfl, rfl⟩ := q16
  show pl _ _ _ (17, [(0, .ref m0), (1, .int t), (2, .int x), (3, .int y)], [.int (nI (tg f E x.toNatClampNeg))], M1) _
  refine ps_st (S' := (18, [(0, .ref m0), (1, .int t), (2, .int x), (3, .int y)], [.int 1, .int (nI (tg f E x.toNatClampNeg))], M1)) rfl rfl rfl ?_
  refine ps_if2 (S1 := (30, [], [], M1)) (S2 := (21, [(0, .ref m0), (1, .int t), (2, .int x), (3, .int y)], [], M1)) rfl rfl rfl (fun c_18 => ?_) (fun c_18 => ?_)
  · exact absurd (of_decide_eq_true c_18) (fun h9 => h9 ((eq_nI (p := tg f E x.toNatClampNeg) (n := 1) (Nat.lt_trans (tg_lt _ _ _) (by decide)) (by decide)).mpr hx))
  refine ps_st (S' := (22, [(0, .ref m0), (1, .int t), (2, .int x), (3, .int y)], [.ref m0], M1)) rfl rfl rfl ?_
  refine ps_st (S' := (23, [(0, .ref m0), (1, .int t), (2, .int x), (3, .int y)], [.int y, .ref m0], M1)) rfl rfl rfl ?_
  refine pl_call (a := [.ref m0, .int y]) (rest := []) rfl rfl rfl (rd_tagR (n := n) (f := f) (tx := tx) (cN := cN) (A := A) (N := N) (mj := mj) (E := E) (k := y) hR3 hi7 hi8 hi9 hF_10 hY_11 hP_12 (hEP) (hN) (hmj) (h0)) (fun v17 M18 q19 => ?_)
  obtain ⟨rfl, rfl⟩ := q19
  show pl _ _ _ (26, [(0, .ref m0), (1, .int t), (2, .int x), (3, .int y)], [.int (nI (tg f E y.toNatClampNeg))], M1) _
  refine ps_st (S' := (27, [(0, .ref m0), (1, .int t), (2, .int x), (3, .int y)], [.int 1, .int (nI (tg f E y.toNatClampNeg))], M1)) rfl rfl rfl ?_
  refine ps_if2 (S1 := (32, [(0, .ref m0), (1, .int t), (2, .int x), (3, .int y)], [], M1)) (S2 := (30, [], [], M1)) rfl rfl rfl (fun c_27 => ?_) (fun c_27 => ?_)
  · exact absurd (of_decide_eq_true c_27) (fun h9 => ht ((eq_nI (p := tg f E y.toNatClampNeg) (n := 1) (Nat.lt_trans (tg_lt _ _ _) (by decide)) (by decide)).mp h9))
  refine ps_st (S' := (31, [], [.int (-1)], M1)) rfl rfl rfl ?_
  exact ps_ret rfl rfl (⟨I2, R, rfl, hR3, hEI13, hER, hi4⟩)
set_option maxHeartbeats 1000000 in
theorem rd_findF {g : xe_G} {m0 : Nat} {q : Nat → Nat} {z : Nat × Nat} {I : rI} {R : rR} {M : mi_H} {n : Nat} {f : Nat → Int32} {tx : List (List Nat)} {cN : Nat} {A : Nat → Nat} {N mj : Nat} {E : List (Nat × Nat)} {n2 : Nat} {t : Int32} {x y : Nat} {B : List Nat} (hR : RS g m0 q z I R M) (hi18 : I 18 = some (nI n2)) (hi51 : I 51 = some 0) (hi52 : I 52 = some (nI N)) (hi53 : I 53 = some (nI mj)) (hi25 : I 25 = some (nI B.length)) (hF : FK n f I R) (hY : SYT tx cN A I R) (hP : RPV f n E tx N I R) (hN9 : FN 28 29 f n E tx B 0 B.length I R) (hEP : EP f n E) (hN : N < 65536) (hmj : mj < 65536) (hn2 : n2 ≤ 65540) (hx : x < 65536) (hy : y < 65536) (hx1 : tg f E x = 1) (hy1 : tg f E y = 1) (hBl : B.length < 65536) (ht : t = 0) : pt (mT g) 207 [.ref m0, .int t, .int (nI x), .int (nI y)] M (fun v M' => (∃  (I' : rI) (R' : rR), v = some (.int (smI (smeS f n E B x y B.length 0))) ∧ RS g m0 q z I' R' M' ∧ eqI [0] I I' ∧ eqR [] R R' ∧ I' 0 = some 0)) := by
  refine pt_in (b := mb_207 g) rfl (fun kf => ?_)
  show pl (mT g) kf (mb_207 g).2 (0, [(0, .ref m0), (1, .int t), (2, .int (nI x)), (3, .int (nI y))], [], M) _
  have hEI : eqI [0] I I := eqI.rf
  have hER : eqR [] R R := eqR.rf
  have hn := hF.1
  have LL : ∀ (kf : Nat), (∀ (s d i : Nat) (M1 : mi_H) (I1 : rI) (R1 : rR), (RS g m0 q z I1 R1 M1) → (eqI [0] I I1) → (eqR [] R R1) → (I1 0 = some 0) → (I1 25 = some (nI B.length)) → (SYT tx cN A I1 R1) → (FN 28 29 f n E tx B 0 B.length I1 R1) → (s < tx.length ∧ tx.getD s [] = tX f n E x) → (d < tx.length ∧ tx.getD d [] = tX f n E y) → (i ≤ B.length) → (smeS f n E B x y (B.length - i) i = smeS f n E B x y B.length 0) →  pl (mT g) kf (mb_207 g).2 (49, [(0, .ref m0), (1, .int t), (4, .int (nI s)), (5, .int (nI d)), (6, .int (nI i))], [], M1) (fun v M' => (∃  (I' : rI) (R' : rR), v = some (.int (smI (smeS f n E B x y B.length 0))) ∧ RS g m0 q z I' R' M' ∧ eqI [0] I I' ∧ eqR [] R R' ∧ I' 0 = some 0))) := by
    intro kf
    induction kf with
    | zero => exact (by intros; exact pl_0)
    | succ kf ih =>
      intro s d i M1 I1 R1 hR1 hEI1 hER1 hl0 hl25 hY1 hN91 hs hd hi hm
      have htl := hY1.1.2.2.1
      have hs7 := hs.1
      have hd7 := hd.1
      refine ps_st1 (S' := (51, [(0, .ref m0), (1, .int t), (4, .int (nI s)), (5, .int (nI d)), (6, .int (nI i))], [.int (nI i)], M1)) rfl rfl rfl ?_
      refine ps_st (S' := (52, [(0, .ref m0), (1, .int t), (4, .int (nI s)), (5, .int (nI d)), (6, .int (nI i))], [.int t, .int (nI i)], M1)) rfl rfl rfl ?_
      refine ps_if (S1 := (62, [(0, .ref m0), (1, .int t), (4, .int (nI s)), (5, .int (nI d)), (6, .int (nI i))], [.int (nI i)], M1)) (S2 := (55, [(0, .ref m0), (1, .int t), (4, .int (nI s)), (5, .int (nI d)), (6, .int (nI i))], [.int (nI i)], M1)) rfl rfl rfl (fun c_52 => ?_) (fun c_52 => ?_)
      rotate_left
      · exact absurd (ht) (of_decide_eq_false c_52)
      refine ps_st (S' := (63, [(0, .ref m0), (1, .int t), (4, .int (nI s)), (5, .int (nI d)), (6, .int (nI i))], [.ref m0, .int (nI i)], M1)) rfl rfl rfl ?_
      refine pr_int (j := 25) (S' := (66, [(0, .ref m0), (1, .int t), (4, .int (nI s)), (5, .int (nI d)), (6, .int (nI i))], [.int (nI B.length), .int (nI i)], M1)) rfl hR1 rfl hl25 rfl ?_
      refine ps_if2 (S1 := (130, [(0, .ref m0), (1, .int t), (4, .int (nI s)), (5, .int (nI d)), (6, .int (nI i))], [], M1)) (S2 := (69, [(0, .ref m0), (1, .int t), (4, .int (nI s)), (5, .int (nI d)), (6, .int (nI i))], [], M1)) rfl rfl rfl (fun c_66 => ?_) (fun c_66 => ?_)
      · have c_66 : (nI B.length) ≤ (nI i) := of_decide_eq_true c_66
        have n_66 : B.length ≤ i := (le_nI (p := B.length) (n := i) (by omega) (by omega)).mp c_66
        refine ps_st (S' := (131, [(0, .ref m0), (1, .int t), (4, .int (nI s)), (5, .int (nI d)), (6, .int (nI i))], [.int (-1)], M1)) rfl rfl rfl ?_
        exact ps_ret rfl rfl (⟨I1, R1, by
            rw [← hm, show B.length - i = 0 by omega]
            rfl, hR1, hEI1, hER1, hl0⟩)
      · have c_66 : ¬ ((nI B.length) ≤ (nI i)) := of_decide_eq_false c_66
        have n_66 : ¬ (B.length ≤ i) := fun h9 => c_66 ((le_nI (p := B.length) (n := i) (by omega) (by omega)).mpr h9)
        obtain ⟨a9, d9, g1, g2, g3, g4, g5, g6⟩ := hN91 i (by omega)
        rw [Nat.zero_add] at g1 g2
        have g7 := g3.1
        have g8 := g4.1
        have sm1 := sm_sym (k := by2 f (B.getD i 0 + 2)) (m := x) hY1 g3 hs g5 hx1
        have sm2 := sm_sym (k := by2 f (B.getD i 0 + 4)) (m := y) hY1 g4 hd g6 hy1
        refine ps_st (S' := (70, [(0, .ref m0), (1, .int t), (4, .int (nI s)), (5, .int (nI d)), (6, .int (nI i))], [.int t], M1)) rfl rfl rfl ?_
        refine ps_if (S1 := (83, [(0, .ref m0), (1, .int t), (4, .int (nI s)), (5, .int (nI d)), (6, .int (nI i))], [], M1)) (S2 := (73, [(0, .ref m0), (1, .int t), (4, .int (nI s)), (5, .int (nI d)), (6, .int (nI i))], [], M1)) rfl rfl rfl (fun c_70 => ?_) (fun c_70 => ?_)
        rotate_left
        · exact absurd (ht) (of_decide_eq_false c_70)
        refine ps_st (S' := (84, [(0, .ref m0), (1, .int t), (4, .int (nI s)), (5, .int (nI d)), (6, .int (nI i))], [.ref m0], M1)) rfl rfl rfl ?_
        refine pr_ref (j := 28) (S' := (87, [(0, .ref m0), (1, .int t), (4, .int (nI s)), (5, .int (nI d)), (6, .int (nI i))], [.ref (q 28)], M1)) rfl hR1 rfl rfl ?_
        refine ps_st (S' := (89, [(0, .ref m0), (1, .int t), (4, .int (nI s)), (5, .int (nI d)), (6, .int (nI i))], [.int (nI i), .ref (q 28)], M1)) rfl rfl rfl ?_
        refine pr_ld (a := 28) (j := i) (y := (nI a9)) (S' := (90, [(0, .ref m0), (1, .int t), (4, .int (nI s)), (5, .int (nI d)), (6, .int (nI i))], [.int (nI a9)], M1)) rfl hR1 rfl (by omega) (fun _ => g1) rfl (fun i1_89 => ?_)
        refine ps_st (S' := (92, [(0, .ref m0), (1, .int t), (4, .int (nI s)), (5, .int (nI d)), (6, .int (nI i))], [.int (nI s), .int (nI a9)], M1)) rfl rfl rfl ?_
        refine ps_if2 (S1 := (124, [(0, .ref m0), (1, .int t), (4, .int (nI s)), (5, .int (nI d)), (6, .int (nI i))], [], M1)) (S2 := (95, [(0, .ref m0), (1, .int t), (4, .int (nI s)), (5, .int (nI d)), (6, .int (nI i))], [], M1)) rfl rfl rfl (fun c_92 => ?_) (fun c_92 => ?_)
        · have c_92 : ¬ (nI a9) = (nI s) := of_decide_eq_true c_92
          have n_92 : ¬ (a9 = s) := fun h9 => c_92 ((eq_nI (p := a9) (n := s) (by omega) (by omega)).mpr h9)
          refine ps_st (S' := (127, [(6, .int ((nI i) + 1)), (0, .ref m0), (1, .int t), (4, .int (nI s)), (5, .int (nI d))], [], M1)) rfl rfl rfl ?_
          rw [nI_add1 (p := i) (k := 1) (x := 1) rfl (by omega)]
          show pl _ _ _ (_, [(6, .int (nI (i + 1))), (0, .ref m0), (1, .int t), (4, .int (nI s)), (5, .int (nI d))], [], M1) _
          refine ps_st (S' := (49, [(0, .ref m0), (1, .int t), (4, .int (nI s)), (5, .int (nI d)), (6, .int (nI (i + 1)))], [], M1)) rfl rfl rfl ?_
          exact ih (s) (d) (i + 1) M1 I1 R1 hR1 hEI1 hER1 hl0 hl25 hY1 hN91 (hs) (hd) (by omega) (by
              rw [← hm, smeS_st (i := i) (by omega), if_neg (by omega)])
        · have c_92 : ¬ (¬ (nI a9) = (nI s)) := of_decide_eq_false c_92
          have n_92 : a9 = s := (eq_nI (p := a9) (n := s) (by omega) (by omega)).mp (Decidable.not_not.mp c_92)
          refine ps_st (S' := (96, [(0, .ref m0), (1, .int t), (4, .int (nI s)), (5, .int (nI d)), (6, .int (nI i))], [.int t], M1)) rfl rfl rfl ?_
          refine ps_if (S1 := (109, [(0, .ref m0), (1, .int t), (4, .int (nI s)), (5, .int (nI d)), (6, .int (nI i))], [], M1)) (S2 := (99, [(0, .ref m0), (1, .int t), (4, .int (nI s)), (5, .int (nI d)), (6, .int (nI i))], [], M1)) rfl rfl rfl (fun c_96 => ?_) (fun c_96 => ?_)
          rotate_left
          · exact absurd (ht) (of_decide_eq_false c_96)
          refine ps_st (S' := (110, [(0, .ref m0), (1, .int t), (4, .int (nI s)), (5, .int (nI d)), (6, .int (nI i))], [.ref m0], M1)) rfl rfl rfl ?_
          refine pr_ref (j := 29) (S' := (113, [(0, .ref m0), (1, .int t), (4, .int (nI s)), (5, .int (nI d)), (6, .int (nI i))], [.ref (q 29)], M1)) rfl hR1 rfl rfl ?_
          refine ps_st (S' := (115, [(0, .ref m0), (1, .int t), (4, .int (nI s)), (5, .int (nI d)), (6, .int (nI i))], [.int (nI i), .ref (q 29)], M1)) rfl rfl rfl ?_
          refine pr_ld (a := 29) (j := i) (y := (nI d9)) (S' := (116, [(0, .ref m0), (1, .int t), (4, .int (nI s)), (5, .int (nI d)), (6, .int (nI i))], [.int (nI d9)], M1)) rfl hR1 rfl (by omega) (fun _ => g2) rfl (fun i1_115 => ?_)
          refine ps_st (S' := (118, [(0, .ref m0), (1, .int t), (4, .int (nI s)), (5, .int (nI d)), (6, .int (nI i))], [.int (nI d), .int (nI d9)], M1)) rfl rfl rfl ?_
          refine ps_if2 (S1 := (124, [(0, .ref m0), (1, .int t), (4, .int (nI s)), (5, .int (nI d)), (6, .int (nI i))], [], M1)) (S2 := (121, [(0, .ref m0), (1, .int t), (4, .int (nI s)), (5, .int (nI d)), (6, .int (nI i))], [], M1)) rfl rfl rfl (fun c_118 => ?_) (fun c_118 => ?_)
          · have c_118 : ¬ (nI d9) = (nI d) := of_decide_eq_true c_118
            have n_118 : ¬ (d9 = d) := fun h9 => c_118 ((eq_nI (p := d9) (n := d) (by omega) (by omega)).mpr h9)
            refine ps_st (S' := (127, [(6, .int ((nI i) + 1)), (0, .ref m0), (1, .int t), (4, .int (nI s)), (5, .int (nI d))], [], M1)) rfl rfl rfl ?_
            rw [nI_add1 (p := i) (k := 1) (x := 1) rfl (by omega)]
            show pl _ _ _ (_, [(6, .int (nI (i + 1))), (0, .ref m0), (1, .int t), (4, .int (nI s)), (5, .int (nI d))], [], M1) _
            refine ps_st (S' := (49, [(0, .ref m0), (1, .int t), (4, .int (nI s)), (5, .int (nI d)), (6, .int (nI (i + 1)))], [], M1)) rfl rfl rfl ?_
            exact ih (s) (d) (i + 1) M1 I1 R1 hR1 hEI1 hER1 hl0 hl25 hY1 hN91 (hs) (hd) (by omega) (by
                rw [← hm, smeS_st (i := i) (by omega), if_neg (by omega)])
          · have c_118 : ¬ (¬ (nI d9) = (nI d)) := of_decide_eq_false c_118
            have n_118 : d9 = d := (eq_nI (p := d9) (n := d) (by omega) (by omega)).mp (Decidable.not_not.mp c_118)
            refine ps_st (S' := (123, [(0, .ref m0), (1, .int t), (4, .int (nI s)), (5, .int (nI d)), (6, .int (nI i))], [.int (nI i)], M1)) rfl rfl rfl ?_
            exact ps_reti rfl (⟨I1, R1, by
                rw [← hm, smeS_st (i := i) (by omega), if_pos (by omega)]
                rfl, hR1, hEI1, hER1, hl0⟩)
  refine ps_st (S' := (1, [(0, .ref m0), (1, .int t), (2, .int (nI x)), (3, .int (nI y))], [.ref m0], M)) rfl rfl rfl ?_
  refine ps_st (S' := (2, [(0, .ref m0), (1, .int t), (2, .int (nI x)), (3, .int (nI y))], [.int 0, .ref m0], M)) rfl rfl rfl ?_
  refine pr_put (j := 0) rfl hR rfl (fun M1 I2 hR3 hi4 hI5 => ?_)
  have hi6 := (hI5 18 (by decide)).trans hi18
  have hi7 := (hI5 51 (by decide)).trans hi51
  have hi8 := (hI5 52 (by decide)).trans hi52
  have hi9 := (hI5 53 (by decide)).trans hi53
  have hi10 := (hI5 25 (by decide)).trans hi25
  have hF_11 := hF.mono (pIx hI5 (by decide)) (fun _ _ => rfl)
  have hY_12 := hY.mono (pIx hI5 (by decide)) (fun _ _ => rfl)
  have hP_13 := hP.mono (pIx hI5 (by decide)) (fun _ _ => rfl)
  have hN9_14 := hN9.mono (pIx hI5 (by decide)) (fun _ _ => rfl)
  have hEI15 := hEI.put hI5 (by decide)
  show pl _ _ _ (5, [(0, .ref m0), (1, .int t), (2, .int (nI x)), (3, .int (nI y))], [], M1) _
  refine ps_st (S' := (6, [(0, .ref m0), (1, .int t), (2, .int (nI x)), (3, .int (nI y))], [.ref m0], M1)) rfl rfl rfl ?_
  refine pr_int (j := 18) (S' := (9, [(0, .ref m0), (1, .int t), (2, .int (nI x)), (3, .int (nI y))], [.int (nI n2)], M1)) rfl hR3 rfl hi6 rfl ?_
  refine ps_if (S1 := (30, [], [], M1)) (S2 := (12, [(0, .ref m0), (1, .int t), (2, .int (nI x)), (3, .int (nI y))], [], M1)) rfl rfl rfl (fun c_9 => ?_) (fun c_9 => ?_)
  · exact absurd (of_decide_eq_true c_9) (show ¬ ((nI n2) < 0) from fun h9 => absurd ((lt_nI (p := n2) (n := 0) (by omega) (by decide)).mp h9) (by omega))
  refine ps_st (S' := (13, [(0, .ref m0), (1, .int t), (2, .int (nI x)), (3, .int (nI y))], [.ref m0], M1)) rfl rfl rfl ?_
  refine ps_st (S' := (14, [(0, .ref m0), (1, .int t), (2, .int (nI x)), (3, .int (nI y))], [.int (nI x), .ref m0], M1)) rfl rfl rfl ?_
  refine pl_call (a := [.ref m0, .int (nI x)]) (rest := []) rfl rfl rfl (rd_tag (n := n) (f := f) (tx := tx) (cN := cN) (A := A) (N := N) (mj := mj) (E := E) (k := x) hR3 hi7 hi8 hi9 hF_11 hY_12 hP_13 (hEP) (hN) (hmj) (by omega)) (fun v16 M17 q18 => ?_)
  obtain ⟨rfl, rfl⟩ := q18
  show pl _ _ _ (17, [(0, .ref m0), (1, .int t), (2, .int (nI x)), (3, .int (nI y))], [.int (nI (tg f E x))], M1) _
  have htg_14 := tg_lt f E x
  refine ps_st (S' := (18, [(0, .ref m0), (1, .int t), (2, .int (nI x)), (3, .int (nI y))], [.int 1, .int (nI (tg f E x))], M1)) rfl rfl rfl ?_
  refine ps_if2 (S1 := (30, [], [], M1)) (S2 := (21, [(0, .ref m0), (1, .int t), (2, .int (nI x)), (3, .int (nI y))], [], M1)) rfl rfl rfl (fun c_18 => ?_) (fun c_18 => ?_)
  · exact absurd (of_decide_eq_true c_18) (fun h9 => h9 (by rw [hx1]; rfl))
  refine ps_st (S' := (22, [(0, .ref m0), (1, .int t), (2, .int (nI x)), (3, .int (nI y))], [.ref m0], M1)) rfl rfl rfl ?_
  refine ps_st (S' := (23, [(0, .ref m0), (1, .int t), (2, .int (nI x)), (3, .int (nI y))], [.int (nI y), .ref m0], M1)) rfl rfl rfl ?_
  refine pl_call (a := [.ref m0, .int (nI y)]) (rest := []) rfl rfl rfl (rd_tag (n := n) (f := f) (tx := tx) (cN := cN) (A := A) (N := N) (mj := mj) (E := E) (k := y) hR3 hi7 hi8 hi9 hF_11 hY_12 hP_13 (hEP) (hN) (hmj) (by omega)) (fun v19 M20 q21 => ?_)
  obtain ⟨rfl, rfl⟩ := q21
  show pl _ _ _ (26, [(0, .ref m0), (1, .int t), (2, .int (nI x)), (3, .int (nI y))], [.int (nI (tg f E y))], M1) _
  have htg_23 := tg_lt f E y
  refine ps_st (S' := (27, [(0, .ref m0), (1, .int t), (2, .int (nI x)), (3, .int (nI y))], [.int 1, .int (nI (tg f E y))], M1)) rfl rfl rfl ?_
  refine ps_if2 (S1 := (32, [(0, .ref m0), (1, .int t), (2, .int (nI x)), (3, .int (nI y))], [], M1)) (S2 := (30, [], [], M1)) rfl rfl rfl (fun c_27 => ?_) (fun c_27 => ?_)
  rotate_left
  · exact absurd (by rw [hy1]; rfl) (of_decide_eq_false c_27)
  refine ps_st (S' := (33, [(0, .ref m0), (1, .int t), (2, .int (nI x)), (3, .int (nI y))], [.ref m0], M1)) rfl rfl rfl ?_
  refine ps_st (S' := (34, [(0, .ref m0), (1, .int t), (2, .int (nI x)), (3, .int (nI y))], [.int (nI x), .ref m0], M1)) rfl rfl rfl ?_
  refine pl_call (a := [.ref m0, .int (nI x)]) (rest := []) rfl rfl rfl (rd_symOf (n := n) (f := f) (tx := tx) (cN := cN) (A := A) (N := N) (mj := mj) (E := E) (k := x) hR3 hi7 hi8 hi9 hF_11 hY_12 hP_13 (hEP) (hN) (hmj) (by omega)) (fun v22 M23 q24 => ?_)
  obtain ⟨s25, q34_s, rfl, rfl⟩ := q24
  show pl _ _ _ (37, [(0, .ref m0), (1, .int t), (2, .int (nI x)), (3, .int (nI y))], [.int (nI s25)], M1) _
  have hsl_34 := q34_s.1
  have htl_34 := hY_12.1.2.2.1
  refine ps_st (S' := (39, [(4, .int (nI s25)), (0, .ref m0), (1, .int t), (2, .int (nI x)), (3, .int (nI y))], [], M1)) rfl rfl rfl ?_
  refine ps_st (S' := (40, [(4, .int (nI s25)), (0, .ref m0), (1, .int t), (2, .int (nI x)), (3, .int (nI y))], [.ref m0], M1)) rfl rfl rfl ?_
  refine ps_st (S' := (41, [(4, .int (nI s25)), (0, .ref m0), (1, .int t), (2, .int (nI x)), (3, .int (nI y))], [.int (nI y), .ref m0], M1)) rfl rfl rfl ?_
  refine pl_call (a := [.ref m0, .int (nI y)]) (rest := []) rfl rfl rfl (rd_symOf (n := n) (f := f) (tx := tx) (cN := cN) (A := A) (N := N) (mj := mj) (E := E) (k := y) hR3 hi7 hi8 hi9 hF_11 hY_12 hP_13 (hEP) (hN) (hmj) (by omega)) (fun v26 M27 q28 => ?_)
  obtain ⟨s29, q41_s, rfl, rfl⟩ := q28
  show pl _ _ _ (44, [(4, .int (nI s25)), (0, .ref m0), (1, .int t), (2, .int (nI x)), (3, .int (nI y))], [.int (nI s29)], M1) _
  have hsl_41 := q41_s.1
  have htl_41 := hY_12.1.2.2.1
  refine ps_st (S' := (46, [(5, .int (nI s29)), (4, .int (nI s25)), (0, .ref m0), (1, .int t), (2, .int (nI x)), (3, .int (nI y))], [], M1)) rfl rfl rfl ?_
  refine ps_st (S' := (47, [(5, .int (nI s29)), (4, .int (nI s25)), (0, .ref m0), (1, .int t), (2, .int (nI x)), (3, .int (nI y))], [.int 0], M1)) rfl rfl rfl ?_
  refine ps_st (S' := (49, [(0, .ref m0), (1, .int t), (4, .int (nI s25)), (5, .int (nI s29)), (6, .int 0)], [], M1)) rfl rfl rfl ?_
  exact (LL kf) (s25) (s29) (0) M1 I2 R hR3 hEI15 hER hi4 hi10 hY_12 hN9_14 (q34_s) (q41_s) (by omega) (rfl)
set_option maxHeartbeats 1000000 in
theorem rd_findM {g : xe_G} {m0 : Nat} {q : Nat → Nat} {z : Nat × Nat} {I : rI} {R : rR} {M : mi_H} {n : Nat} {f : Nat → Int32} {tx : List (List Nat)} {cN : Nat} {A : Nat → Nat} {N mj : Nat} {E : List (Nat × Nat)} {n2 : Nat} {t : Int32} {x y : Nat} {B : List Nat} (hR : RS g m0 q z I R M) (hi18 : I 18 = some (nI n2)) (hi51 : I 51 = some 0) (hi52 : I 52 = some (nI N)) (hi53 : I 53 = some (nI mj)) (hi26 : I 26 = some (nI B.length)) (hF : FK n f I R) (hY : SYT tx cN A I R) (hP : RPV f n E tx N I R) (hN9 : FN 35 36 f n E tx B 0 B.length I R) (hEP : EP f n E) (hN : N < 65536) (hmj : mj < 65536) (hn2 : n2 ≤ 65540) (hx : x < 65536) (hy : y < 65536) (hx1 : tg f E x = 1) (hy1 : tg f E y = 1) (hBl : B.length < 65536) (ht : ¬ t = 0) : pt (mT g) 207 [.ref m0, .int t, .int (nI x), .int (nI y)] M (fun v M' => (∃  (I' : rI) (R' : rR), v = some (.int (smI (smeS f n E B x y B.length 0))) ∧ RS g m0 q z I' R' M' ∧ eqI [0] I I' ∧ eqR [] R R' ∧ I' 0 = some 0)) := by
  refine pt_in (b := mb_207 g) rfl (fun kf => ?_)
  show pl (mT g) kf (mb_207 g).2 (0, [(0, .ref m0), (1, .int t), (2, .int (nI x)), (3, .int (nI y))], [], M) _
  have hEI : eqI [0] I I := eqI.rf
  have hER : eqR [] R R := eqR.rf
  have hn := hF.1
  have LL : ∀ (kf : Nat), (∀ (s d i : Nat) (M1 : mi_H) (I1 : rI) (R1 : rR), (RS g m0 q z I1 R1 M1) → (eqI [0] I I1) → (eqR [] R R1) → (I1 0 = some 0) → (I1 26 = some (nI B.length)) → (SYT tx cN A I1 R1) → (FN 35 36 f n E tx B 0 B.length I1 R1) → (s < tx.length ∧ tx.getD s [] = tX f n E x) → (d < tx.length ∧ tx.getD d [] = tX f n E y) → (i ≤ B.length) → (smeS f n E B x y (B.length - i) i = smeS f n E B x y B.length 0) →  pl (mT g) kf (mb_207 g).2 (49, [(0, .ref m0), (1, .int t), (4, .int (nI s)), (5, .int (nI d)), (6, .int (nI i))], [], M1) (fun v M' => (∃  (I' : rI) (R' : rR), v = some (.int (smI (smeS f n E B x y B.length 0))) ∧ RS g m0 q z I' R' M' ∧ eqI [0] I I' ∧ eqR [] R R' ∧ I' 0 = some 0))) := by
    intro kf
    induction kf with
    | zero => exact (by intros; exact pl_0)
    | succ kf ih =>
      intro s d i M1 I1 R1 hR1 hEI1 hER1 hl0 hl26 hY1 hN91 hs hd hi hm
      have htl := hY1.1.2.2.1
      have hs7 := hs.1
      have hd7 := hd.1
      refine ps_st1 (S' := (51, [(0, .ref m0), (1, .int t), (4, .int (nI s)), (5, .int (nI d)), (6, .int (nI i))], [.int (nI i)], M1)) rfl rfl rfl ?_
      refine ps_st (S' := (52, [(0, .ref m0), (1, .int t), (4, .int (nI s)), (5, .int (nI d)), (6, .int (nI i))], [.int t, .int (nI i)], M1)) rfl rfl rfl ?_
      refine ps_if (S1 := (62, [(0, .ref m0), (1, .int t), (4, .int (nI s)), (5, .int (nI d)), (6, .int (nI i))], [.int (nI i)], M1)) (S2 := (55, [(0, .ref m0), (1, .int t), (4, .int (nI s)), (5, .int (nI d)), (6, .int (nI i))], [.int (nI i)], M1)) rfl rfl rfl (fun c_52 => ?_) (fun c_52 => ?_)
      · exact absurd (of_decide_eq_true c_52) (ht)
      refine ps_st (S' := (56, [(0, .ref m0), (1, .int t), (4, .int (nI s)), (5, .int (nI d)), (6, .int (nI i))], [.ref m0, .int (nI i)], M1)) rfl rfl rfl ?_
      refine pr_int (j := 26) (S' := (59, [(0, .ref m0), (1, .int t), (4, .int (nI s)), (5, .int (nI d)), (6, .int (nI i))], [.int (nI B.length), .int (nI i)], M1)) rfl hR1 rfl hl26 rfl ?_
      refine ps_st (S' := (66, [(0, .ref m0), (1, .int t), (4, .int (nI s)), (5, .int (nI d)), (6, .int (nI i))], [.int (nI B.length), .int (nI i)], M1)) rfl rfl rfl ?_
      refine ps_if2 (S1 := (130, [(0, .ref m0), (1, .int t), (4, .int (nI s)), (5, .int (nI d)), (6, .int (nI i))], [], M1)) (S2 := (69, [(0, .ref m0), (1, .int t), (4, .int (nI s)), (5, .int (nI d)), (6, .int (nI i))], [], M1)) rfl rfl rfl (fun c_66 => ?_) (fun c_66 => ?_)
      · have c_66 : (nI B.length) ≤ (nI i) := of_decide_eq_true c_66
        have n_66 : B.length ≤ i := (le_nI (p := B.length) (n := i) (by omega) (by omega)).mp c_66
        refine ps_st (S' := (131, [(0, .ref m0), (1, .int t), (4, .int (nI s)), (5, .int (nI d)), (6, .int (nI i))], [.int (-1)], M1)) rfl rfl rfl ?_
        exact ps_ret rfl rfl (⟨I1, R1, by
            rw [← hm, show B.length - i = 0 by omega]
            rfl, hR1, hEI1, hER1, hl0⟩)
      · have c_66 : ¬ ((nI B.length) ≤ (nI i)) := of_decide_eq_false c_66
        have n_66 : ¬ (B.length ≤ i) := fun h9 => c_66 ((le_nI (p := B.length) (n := i) (by omega) (by omega)).mpr h9)
        obtain ⟨a9, d9, g1, g2, g3, g4, g5, g6⟩ := hN91 i (by omega)
        rw [Nat.zero_add] at g1 g2
        have g7 := g3.1
        have g8 := g4.1
        have sm1 := sm_sym (k := by2 f (B.getD i 0 + 2)) (m := x) hY1 g3 hs g5 hx1
        have sm2 := sm_sym (k := by2 f (B.getD i 0 + 4)) (m := y) hY1 g4 hd g6 hy1
        refine ps_st (S' := (70, [(0, .ref m0), (1, .int t), (4, .int (nI s)), (5, .int (nI d)), (6, .int (nI i))], [.int t], M1)) rfl rfl rfl ?_
        refine ps_if (S1 := (83, [(0, .ref m0), (1, .int t), (4, .int (nI s)), (5, .int (nI d)), (6, .int (nI i))], [], M1)) (S2 := (73, [(0, .ref m0), (1, .int t), (4, .int (nI s)), (5, .int (nI d)), (6, .int (nI i))], [], M1)) rfl rfl rfl (fun c_70 => ?_) (fun c_70 => ?_)
        · exact absurd (of_decide_eq_true c_70) (ht)
        refine ps_st (S' := (74, [(0, .ref m0), (1, .int t), (4, .int (nI s)), (5, .int (nI d)), (6, .int (nI i))], [.ref m0], M1)) rfl rfl rfl ?_
        refine pr_ref (j := 35) (S' := (77, [(0, .ref m0), (1, .int t), (4, .int (nI s)), (5, .int (nI d)), (6, .int (nI i))], [.ref (q 35)], M1)) rfl hR1 rfl rfl ?_
        refine ps_st (S' := (79, [(0, .ref m0), (1, .int t), (4, .int (nI s)), (5, .int (nI d)), (6, .int (nI i))], [.int (nI i), .ref (q 35)], M1)) rfl rfl rfl ?_
        refine pr_ld (a := 35) (j := i) (y := (nI a9)) (S' := (80, [(0, .ref m0), (1, .int t), (4, .int (nI s)), (5, .int (nI d)), (6, .int (nI i))], [.int (nI a9)], M1)) rfl hR1 rfl (by omega) (fun _ => g1) rfl (fun i1_79 => ?_)
        refine ps_st (S' := (90, [(0, .ref m0), (1, .int t), (4, .int (nI s)), (5, .int (nI d)), (6, .int (nI i))], [.int (nI a9)], M1)) rfl rfl rfl ?_
        refine ps_st (S' := (92, [(0, .ref m0), (1, .int t), (4, .int (nI s)), (5, .int (nI d)), (6, .int (nI i))], [.int (nI s), .int (nI a9)], M1)) rfl rfl rfl ?_
        refine ps_if2 (S1 := (124, [(0, .ref m0), (1, .int t), (4, .int (nI s)), (5, .int (nI d)), (6, .int (nI i))], [], M1)) (S2 := (95, [(0, .ref m0), (1, .int t), (4, .int (nI s)), (5, .int (nI d)), (6, .int (nI i))], [], M1)) rfl rfl rfl (fun c_92 => ?_) (fun c_92 => ?_)
        · have c_92 : ¬ (nI a9) = (nI s) := of_decide_eq_true c_92
          have n_92 : ¬ (a9 = s) := fun h9 => c_92 ((eq_nI (p := a9) (n := s) (by omega) (by omega)).mpr h9)
          refine ps_st (S' := (127, [(6, .int ((nI i) + 1)), (0, .ref m0), (1, .int t), (4, .int (nI s)), (5, .int (nI d))], [], M1)) rfl rfl rfl ?_
          rw [nI_add1 (p := i) (k := 1) (x := 1) rfl (by omega)]
          show pl _ _ _ (_, [(6, .int (nI (i + 1))), (0, .ref m0), (1, .int t), (4, .int (nI s)), (5, .int (nI d))], [], M1) _
          refine ps_st (S' := (49, [(0, .ref m0), (1, .int t), (4, .int (nI s)), (5, .int (nI d)), (6, .int (nI (i + 1)))], [], M1)) rfl rfl rfl ?_
          exact ih (s) (d) (i + 1) M1 I1 R1 hR1 hEI1 hER1 hl0 hl26 hY1 hN91 (hs) (hd) (by omega) (by
              rw [← hm, smeS_st (i := i) (by omega), if_neg (by omega)])
        · have c_92 : ¬ (¬ (nI a9) = (nI s)) := of_decide_eq_false c_92
          have n_92 : a9 = s := (eq_nI (p := a9) (n := s) (by omega) (by omega)).mp (Decidable.not_not.mp c_92)
          refine ps_st (S' := (96, [(0, .ref m0), (1, .int t), (4, .int (nI s)), (5, .int (nI d)), (6, .int (nI i))], [.int t], M1)) rfl rfl rfl ?_
          refine ps_if (S1 := (109, [(0, .ref m0), (1, .int t), (4, .int (nI s)), (5, .int (nI d)), (6, .int (nI i))], [], M1)) (S2 := (99, [(0, .ref m0), (1, .int t), (4, .int (nI s)), (5, .int (nI d)), (6, .int (nI i))], [], M1)) rfl rfl rfl (fun c_96 => ?_) (fun c_96 => ?_)
          · exact absurd (of_decide_eq_true c_96) (ht)
          refine ps_st (S' := (100, [(0, .ref m0), (1, .int t), (4, .int (nI s)), (5, .int (nI d)), (6, .int (nI i))], [.ref m0], M1)) rfl rfl rfl ?_
          refine pr_ref (j := 36) (S' := (103, [(0, .ref m0), (1, .int t), (4, .int (nI s)), (5, .int (nI d)), (6, .int (nI i))], [.ref (q 36)], M1)) rfl hR1 rfl rfl ?_
          refine ps_st (S' := (105, [(0, .ref m0), (1, .int t), (4, .int (nI s)), (5, .int (nI d)), (6, .int (nI i))], [.int (nI i), .ref (q 36)], M1)) rfl rfl rfl ?_
          refine pr_ld (a := 36) (j := i) (y := (nI d9)) (S' := (106, [(0, .ref m0), (1, .int t), (4, .int (nI s)), (5, .int (nI d)), (6, .int (nI i))], [.int (nI d9)], M1)) rfl hR1 rfl (by omega) (fun _ => g2) rfl (fun i1_105 => ?_)
          refine ps_st (S' := (116, [(0, .ref m0), (1, .int t), (4, .int (nI s)), (5, .int (nI d)), (6, .int (nI i))], [.int (nI d9)], M1)) rfl rfl rfl ?_
          refine ps_st (S' := (118, [(0, .ref m0), (1, .int t), (4, .int (nI s)), (5, .int (nI d)), (6, .int (nI i))], [.int (nI d), .int (nI d9)], M1)) rfl rfl rfl ?_
          refine ps_if2 (S1 := (124, [(0, .ref m0), (1, .int t), (4, .int (nI s)), (5, .int (nI d)), (6, .int (nI i))], [], M1)) (S2 := (121, [(0, .ref m0), (1, .int t), (4, .int (nI s)), (5, .int (nI d)), (6, .int (nI i))], [], M1)) rfl rfl rfl (fun c_118 => ?_) (fun c_118 => ?_)
          · have c_118 : ¬ (nI d9) = (nI d) := of_decide_eq_true c_118
            have n_118 : ¬ (d9 = d) := fun h9 => c_118 ((eq_nI (p := d9) (n := d) (by omega) (by omega)).mpr h9)
            refine ps_st (S' := (127, [(6, .int ((nI i) + 1)), (0, .ref m0), (1, .int t), (4, .int (nI s)), (5, .int (nI d))], [], M1)) rfl rfl rfl ?_
            rw [nI_add1 (p := i) (k := 1) (x := 1) rfl (by omega)]
            show pl _ _ _ (_, [(6, .int (nI (i + 1))), (0, .ref m0), (1, .int t), (4, .int (nI s)), (5, .int (nI d))], [], M1) _
            refine ps_st (S' := (49, [(0, .ref m0), (1, .int t), (4, .int (nI s)), (5, .int (nI d)), (6, .int (nI (i + 1)))], [], M1)) rfl rfl rfl ?_
            exact ih (s) (d) (i + 1) M1 I1 R1 hR1 hEI1 hER1 hl0 hl26 hY1 hN91 (hs) (hd) (by omega) (by
                rw [← hm, smeS_st (i := i) (by omega), if_neg (by omega)])
          · have c_118 : ¬ (¬ (nI d9) = (nI d)) := of_decide_eq_false c_118
            have n_118 : d9 = d := (eq_nI (p := d9) (n := d) (by omega) (by omega)).mp (Decidable.not_not.mp c_118)
            refine ps_st (S' := (123, [(0, .ref m0), (1, .int t), (4, .int (nI s)), (5, .int (nI d)), (6, .int (nI i))], [.int (nI i)], M1)) rfl rfl rfl ?_
            exact ps_reti rfl (⟨I1, R1, by
                rw [← hm, smeS_st (i := i) (by omega), if_pos (by omega)]
                rfl, hR1, hEI1, hER1, hl0⟩)
  refine ps_st (S' := (1, [(0, .ref m0), (1, .int t), (2, .int (nI x)), (3, .int (nI y))], [.ref m0], M)) rfl rfl rfl ?_
  refine ps_st (S' := (2, [(0, .ref m0), (1, .int t), (2, .int (nI x)), (3, .int (nI y))], [.int 0, .ref m0], M)) rfl rfl rfl ?_
  refine pr_put (j := 0) rfl hR rfl (fun M1 I2 hR3 hi4 hI5 => ?_)
  have hi6 := (hI5 18 (by decide)).trans hi18
  have hi7 := (hI5 51 (by decide)).trans hi51
  have hi8 := (hI5 52 (by decide)).trans hi52
  have hi9 := (hI5 53 (by decide)).trans hi53
  have hi10 := (hI5 26 (by decide)).trans hi26
  have hF_11 := hF.mono (pIx hI5 (by decide)) (fun _ _ => rfl)
  have hY_12 := hY.mono (pIx hI5 (by decide)) (fun _ _ => rfl)
  have hP_13 := hP.mono (pIx hI5 (by decide)) (fun _ _ => rfl)
  have hN9_14 := hN9.mono (pIx hI5 (by decide)) (fun _ _ => rfl)
  have hEI15 := hEI.put hI5 (by decide)
  show pl _ _ _ (5, [(0, .ref m0), (1, .int t), (2, .int (nI x)), (3, .int (nI y))], [], M1) _
  refine ps_st (S' := (6, [(0, .ref m0), (1, .int t), (2, .int (nI x)), (3, .int (nI y))], [.ref m0], M1)) rfl rfl rfl ?_
  refine pr_int (j := 18) (S' := (9, [(0, .ref m0), (1, .int t), (2, .int (nI x)), (3, .int (nI y))], [.int (nI n2)], M1)) rfl hR3 rfl hi6 rfl ?_
  refine ps_if (S1 := (30, [], [], M1)) (S2 := (12, [(0, .ref m0), (1, .int t), (2, .int (nI x)), (3, .int (nI y))], [], M1)) rfl rfl rfl (fun c_9 => ?_) (fun c_9 => ?_)
  · exact absurd (of_decide_eq_true c_9) (show ¬ ((nI n2) < 0) from fun h9 => absurd ((lt_nI (p := n2) (n := 0) (by omega) (by decide)).mp h9) (by omega))
  refine ps_st (S' := (13, [(0, .ref m0), (1, .int t), (2, .int (nI x)), (3, .int (nI y))], [.ref m0], M1)) rfl rfl rfl ?_
  refine ps_st (S' := (14, [(0, .ref m0), (1, .int t), (2, .int (nI x)), (3, .int (nI y))], [.int (nI x), .ref m0], M1)) rfl rfl rfl ?_
  refine pl_call (a := [.ref m0, .int (nI x)]) (rest := []) rfl rfl rfl (rd_tag (n := n) (f := f) (tx := tx) (cN := cN) (A := A) (N := N) (mj := mj) (E := E) (k := x) hR3 hi7 hi8 hi9 hF_11 hY_12 hP_13 (hEP) (hN) (hmj) (by omega)) (fun v16 M17 q18 => ?_)
  obtain ⟨rfl, rfl⟩ := q18
  show pl _ _ _ (17, [(0, .ref m0), (1, .int t), (2, .int (nI x)), (3, .int (nI y))], [.int (nI (tg f E x))], M1) _
  have htg_14 := tg_lt f E x
  refine ps_st (S' := (18, [(0, .ref m0), (1, .int t), (2, .int (nI x)), (3, .int (nI y))], [.int 1, .int (nI (tg f E x))], M1)) rfl rfl rfl ?_
  refine ps_if2 (S1 := (30, [], [], M1)) (S2 := (21, [(0, .ref m0), (1, .int t), (2, .int (nI x)), (3, .int (nI y))], [], M1)) rfl rfl rfl (fun c_18 => ?_) (fun c_18 => ?_)
  · exact absurd (of_decide_eq_true c_18) (fun h9 => h9 (by rw [hx1]; rfl))
  refine ps_st (S' := (22, [(0, .ref m0), (1, .int t), (2, .int (nI x)), (3, .int (nI y))], [.ref m0], M1)) rfl rfl rfl ?_
  refine ps_st (S' := (23, [(0, .ref m0), (1, .int t), (2, .int (nI x)), (3, .int (nI y))], [.int (nI y), .ref m0], M1)) rfl rfl rfl ?_
  refine pl_call (a := [.ref m0, .int (nI y)]) (rest := []) rfl rfl rfl (rd_tag (n := n) (f := f) (tx := tx) (cN := cN) (A := A) (N := N) (mj := mj) (E := E) (k := y) hR3 hi7 hi8 hi9 hF_11 hY_12 hP_13 (hEP) (hN) (hmj) (by omega)) (fun v19 M20 q21 => ?_)
  obtain ⟨rfl, rfl⟩ := q21
  show pl _ _ _ (26, [(0, .ref m0), (1, .int t), (2, .int (nI x)), (3, .int (nI y))], [.int (nI (tg f E y))], M1) _
  have htg_23 := tg_lt f E y
  refine ps_st (S' := (27, [(0, .ref m0), (1, .int t), (2, .int (nI x)), (3, .int (nI y))], [.int 1, .int (nI (tg f E y))], M1)) rfl rfl rfl ?_
  refine ps_if2 (S1 := (32, [(0, .ref m0), (1, .int t), (2, .int (nI x)), (3, .int (nI y))], [], M1)) (S2 := (30, [], [], M1)) rfl rfl rfl (fun c_27 => ?_) (fun c_27 => ?_)
  rotate_left
  · exact absurd (by rw [hy1]; rfl) (of_decide_eq_false c_27)
  refine ps_st (S' := (33, [(0, .ref m0), (1, .int t), (2, .int (nI x)), (3, .int (nI y))], [.ref m0], M1)) rfl rfl rfl ?_
  refine ps_st (S' := (34, [(0, .ref m0), (1, .int t), (2, .int (nI x)), (3, .int (nI y))], [.int (nI x), .ref m0], M1)) rfl rfl rfl ?_
  refine pl_call (a := [.ref m0, .int (nI x)]) (rest := []) rfl rfl rfl (rd_symOf (n := n) (f := f) (tx := tx) (cN := cN) (A := A) (N := N) (mj := mj) (E := E) (k := x) hR3 hi7 hi8 hi9 hF_11 hY_12 hP_13 (hEP) (hN) (hmj) (by omega)) (fun v22 M23 q24 => ?_)
  obtain ⟨s25, q34_s, rfl, rfl⟩ := q24
  show pl _ _ _ (37, [(0, .ref m0), (1, .int t), (2, .int (nI x)), (3, .int (nI y))], [.int (nI s25)], M1) _
  have hsl_34 := q34_s.1
  have htl_34 := hY_12.1.2.2.1
  refine ps_st (S' := (39, [(4, .int (nI s25)), (0, .ref m0), (1, .int t), (2, .int (nI x)), (3, .int (nI y))], [], M1)) rfl rfl rfl ?_
  refine ps_st (S' := (40, [(4, .int (nI s25)), (0, .ref m0), (1, .int t), (2, .int (nI x)), (3, .int (nI y))], [.ref m0], M1)) rfl rfl rfl ?_
  refine ps_st (S' := (41, [(4, .int (nI s25)), (0, .ref m0), (1, .int t), (2, .int (nI x)), (3, .int (nI y))], [.int (nI y), .ref m0], M1)) rfl rfl rfl ?_
  refine pl_call (a := [.ref m0, .int (nI y)]) (rest := []) rfl rfl rfl (rd_symOf (n := n) (f := f) (tx := tx) (cN := cN) (A := A) (N := N) (mj := mj) (E := E) (k := y) hR3 hi7 hi8 hi9 hF_11 hY_12 hP_13 (hEP) (hN) (hmj) (by omega)) (fun v26 M27 q28 => ?_)
  obtain ⟨s29, q41_s, rfl, rfl⟩ := q28
  show pl _ _ _ (44, [(4, .int (nI s25)), (0, .ref m0), (1, .int t), (2, .int (nI x)), (3, .int (nI y))], [.int (nI s29)], M1) _
  have hsl_41 := q41_s.1
  have htl_41 := hY_12.1.2.2.1
  refine ps_st (S' := (46, [(5, .int (nI s29)), (4, .int (nI s25)), (0, .ref m0), (1, .int t), (2, .int (nI x)), (3, .int (nI y))], [], M1)) rfl rfl rfl ?_
  refine ps_st (S' := (47, [(5, .int (nI s29)), (4, .int (nI s25)), (0, .ref m0), (1, .int t), (2, .int (nI x)), (3, .int (nI y))], [.int 0], M1)) rfl rfl rfl ?_
  refine ps_st (S' := (49, [(0, .ref m0), (1, .int t), (4, .int (nI s25)), (5, .int (nI s29)), (6, .int 0)], [], M1)) rfl rfl rfl ?_
  exact (LL kf) (s25) (s29) (0) M1 I2 R hR3 hEI15 hER hi4 hi10 hY_12 hN9_14 (q34_s) (q41_s) (by omega) (rfl)
theorem rd_find {g : xe_G} {m0 : Nat} {q : Nat → Nat} {z : Nat × Nat} {I : rI} {R : rR} {M : mi_H} {ko : Option (Nat × (Nat → Int32))} {t x y : Int32} (hR : RS g m0 q z I R M) (hK : KPR ko I R) : pt (mT g) 207 [.ref m0, .int t, .int x, .int y] M (fun v M' => ∃ (I' : rI) (R' : rR), v = some (.int (fdK ko t x y)) ∧ RS g m0 q z I' R' M' ∧ eqI [0] I I' ∧ eqR [] R R' ∧ I' 0 = some 0) := by
  cases ko with
  | none =>
    obtain ⟨kn, h1, h2⟩ := hK
    exact rd_find0 hR h1 h2
  | some r =>
    obtain ⟨h1, h2, -, -, tx, cN, A, E, N, mj, p1, pF, pM, pA, k1, k2, k3, k4, k5, k6, k7, rfl, rfl, m1, m2, m3, m4, m5, m6, -⟩ := hK
    rw [fdK_is k7]
    have hN := by2_lt r.2 8
    have hpl := whole_in k7
    have hEP := (EP_of hpl).1
    have h0 := tg_0 hpl
    unfold fdI
    by_cases hx1 : tg r.2 E x.toNatClampNeg = 1
    · by_cases hy1 : tg r.2 E y.toNatClampNeg = 1
      · rw [if_pos ⟨hx1, hy1⟩]
        have hlo : ∀ j, by2 r.2 8 ≤ j → tg r.2 E j = 0 := fun j hj => by
          unfold tg
          rw [lk_hi k3.1 (Or.inr hj)]
        obtain ⟨ex, lx⟩ := tg_nn (by omega) hlo h0 hx1
        obtain ⟨ey, ly⟩ := tg_nn (by omega) hlo h0 hy1
        obtain ⟨i, ei⟩ : ∃ i, i = x.toNatClampNeg := ⟨_, rfl⟩
        obtain ⟨j, ej⟩ : ∃ j, j = y.toNatClampNeg := ⟨_, rfl⟩
        rw [← ei] at ex lx hx1 ⊢
        rw [← ej] at ey ly hy1 ⊢
        subst ex
        subst ey
        by_cases ht : t = 0
        · rw [if_pos ht]
          exact rd_findF hR h1 k4 k5 k6 m1 k1 k2 k3 m3 hEP hN (by2_lt _ _) h2 lx ly hx1 hy1 (mbs_len m5) ht
        · rw [if_neg ht]
          exact rd_findM hR h1 k4 k5 k6 m2 k1 k2 k3 m4 hEP hN (by2_lt _ _) h2 lx ly hx1 hy1 (mbs_len m6) ht
      · rw [if_neg (fun q => hy1 q.2)]
        exact rd_findB hR h1 k4 k5 k6 k1 k2 k3 hEP hN (by2_lt _ _) h2 h0 hx1 hy1
    · rw [if_neg (fun q => hx1 q.1)]
      exact rd_findA hR h1 k4 k5 k6 k1 k2 k3 hEP hN (by2_lt _ _) h2 h0 hx1
