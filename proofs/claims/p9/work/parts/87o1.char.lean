set_option maxHeartbeats 1000000 in
theorem rd_tagO {g : xe_G} {m0 : Nat} {q : Nat → Nat} {z : Nat × Nat} {I : rI} {R : rR} {M : mi_H} {n : Nat} {f : Nat → Int32} {tx : List (List Nat)} {cN : Nat} {A : Nat → Nat} {N mj : Nat} {E : List (Nat × Nat)} {k : Int32} (hR : RS g m0 q z I R M) (hi51 : I 51 = some 0) (hi52 : I 52 = some (nI N)) (hi53 : I 53 = some (nI mj)) (hF : FK n f I R) (hY : SYT tx cN A I R) (hP : RPV f n E tx N I R) (hEP : EP f n E) (hN : N < 65536) (hk : k ≤ 0 ∨ nI N ≤ k) : pt (mT g) 247 [.ref m0, .int k] M (fun v M' => (v = some (.int 0) ∧ M = M')) := by
  refine pt_in (b := mb_247 g) rfl (fun kf => ?_)
  show pl (mT g) kf (mb_247 g).2 (0, [(0, .ref m0), (1, .int k)], [], M) _
  refine ps_st (S' := (1, [(0, .ref m0), (1, .int k)], [.int k], M)) rfl rfl rfl ?_
  refine ps_if (S1 := (26, [], [], M)) (S2 := (4, [(0, .ref m0), (1, .int k)], [], M)) rfl rfl rfl (fun c_1 => ?_) (fun c_1 => ?_)
  · have c_1 : k ≤ 0 := of_decide_eq_true c_1
    refine ps_st (S' := (27, [], [.int 0], M)) rfl rfl rfl ?_
    refine ps_st (S' := (45, [], [.int 0], M)) rfl rfl rfl ?_
    exact ps_ret rfl rfl (⟨rfl, rfl⟩)
  · have c_1 : ¬ (k ≤ 0) := of_decide_eq_false c_1
    refine ps_st (S' := (5, [(0, .ref m0), (1, .int k)], [.int k], M)) rfl rfl rfl ?_
    refine ps_st (S' := (6, [(0, .ref m0), (1, .int k)], [.ref m0, .int k], M)) rfl rfl rfl ?_
    refine pr_int (j := 52) (S' := (9, [(0, .ref m0), (1, .int k)], [.int (nI N), .int k], M)) rfl hR rfl hi52 rfl ?_
    refine ps_if2 (S1 := (26, [], [], M)) (S2 := (12, [(0, .ref m0), (1, .int k)], [], M)) rfl rfl rfl (fun c_9 => ?_) (fun c_9 => ?_)
    · have c_9 : (nI N) ≤ k := of_decide_eq_true c_9
      refine ps_st (S' := (27, [], [.int 0], M)) rfl rfl rfl ?_
      refine ps_st (S' := (45, [], [.int 0], M)) rfl rfl rfl ?_
      exact ps_ret rfl rfl (⟨rfl, rfl⟩)
    · have c_9 : ¬ ((nI N) ≤ k) := of_decide_eq_false c_9
      exfalso
      rcases hk with h9 | h9
      · exact absurd h9 (by assumption)
      · exact absurd h9 (by assumption)
theorem rd_tagR {g : xe_G} {m0 : Nat} {q : Nat → Nat} {z : Nat × Nat} {I : rI} {R : rR} {M : mi_H} {n : Nat} {f : Nat → Int32} {tx : List (List Nat)} {cN : Nat} {A : Nat → Nat} {N mj : Nat} {E : List (Nat × Nat)} {k : Int32} (hR : RS g m0 q z I R M) (hi51 : I 51 = some 0) (hi52 : I 52 = some (nI N)) (hi53 : I 53 = some (nI mj)) (hF : FK n f I R) (hY : SYT tx cN A I R) (hP : RPV f n E tx N I R) (hEP : EP f n E) (hN : N < 65536) (hmj : mj < 65536) (h0 : tg f E 0 = 0) : pt (mT g) 247 [.ref m0, .int k] M (fun v M' => (v = some (.int (nI (tg f E k.toNatClampNeg))) ∧ M = M')) := by
  by_cases hk : k ≤ 0 ∨ nI N ≤ k
  · have e : tg f E k.toNatClampNeg = 0 := by
      by_cases h1 : k < 0
      · rw [i32_cl h1]
        exact h0
      · rcases hk with h2 | h2
        · have h3 : k = 0 := Int32.le_antisymm h2 (Int32.not_lt.mp h1)
          rw [h3]
          exact h0
        · have h3 := i32_ge (N := N) (by omega) h1 (Int32.not_lt.mpr h2)
          unfold tg
          rw [lk_hi hP.1 (Or.inr h3)]
    rw [e]
    exact rd_tagO hR hi51 hi52 hi53 hF hY hP hEP hN hk
  · have h1 : ¬ k < 0 := fun h9 => hk (Or.inl (Int32.le_of_lt h9))
    obtain ⟨e, hj⟩ := i32_in hN (fun h9 => h9.elim h1 (fun h8 => hk (Or.inr h8)))
    obtain ⟨j, ej⟩ : ∃ j, j = k.toNatClampNeg := ⟨_, rfl⟩
    rw [← ej] at e hj ⊢
    subst e
    exact rd_tag hR hi51 hi52 hi53 hF hY hP hEP hN hmj (by omega)
set_option maxHeartbeats 1000000 in
theorem rd_character0 {g : xe_G} {m0 : Nat} {q : Nat → Nat} {z : Nat × Nat} {I : rI} {R : rR} {M : mi_H} {kn k i : Int32} (hR : RS g m0 q z I R M) (hi18 : I 18 = some kn)  (hk : kn < 0) : pt (mT g) 186 [.ref m0, .int k, .int i] M (fun v M' => (∃  (I' : rI) (R' : rR), v = some (.int (-1)) ∧ RS g m0 q z I' R' M' ∧ eqI [0] I I' ∧ eqR [] R R' ∧ I' 0 = some 0)) := by
  refine pt_in (b := mb_186 g) rfl (fun kf => ?_)
  show pl (mT g) kf (mb_186 g).2 (0, [(0, .ref m0), (1, .int k), (2, .int i)], [], M) _
  have hEI : eqI [0] I I := eqI.rf
  have hER : eqR [] R R := eqR.rf
  refine ps_st (S' := (1, [(0, .ref m0), (1, .int k), (2, .int i)], [.ref m0], M)) rfl rfl rfl ?_
  refine ps_st (S' := (2, [(0, .ref m0), (1, .int k), (2, .int i)], [.int 0, .ref m0], M)) rfl rfl rfl ?_
  refine pr_put (j := 0) rfl hR rfl (fun M1 I2 hR3 hi4 hI5 => ?_)
  have hi6 := (hI5 18 (by decide)).trans hi18
  have hEI7 := hEI.put hI5 (by decide)
  show pl _ _ _ (5, [(0, .ref m0), (1, .int k), (2, .int i)], [], M1) _
  refine ps_st (S' := (6, [(0, .ref m0), (1, .int k), (2, .int i)], [.ref m0], M1)) rfl rfl rfl ?_
  refine pr_int (j := 18) (S' := (9, [(0, .ref m0), (1, .int k), (2, .int i)], [.int kn], M1)) rfl hR3 rfl hi6 rfl ?_
  refine ps_if (S1 := (38, [], [], M1)) (S2 := (12, [(0, .ref m0), (1, .int k), (2, .int i)], [], M1)) rfl rfl rfl (fun c_9 => ?_) (fun c_9 => ?_)
  rotate_left
  · exact absurd (hk) (of_decide_eq_false c_9)
  refine ps_st (S' := (39, [], [.int (-1)], M1)) rfl rfl rfl ?_
  refine ps_st (S' := (52, [], [.int (-1)], M1)) rfl rfl rfl ?_
  exact ps_ret rfl rfl (⟨I2, R, rfl, hR3, hEI7, hER, hi4⟩)
set_option maxHeartbeats 1000000 in
theorem rd_characterT {g : xe_G} {m0 : Nat} {q : Nat → Nat} {z : Nat × Nat} {I : rI} {R : rR} {M : mi_H} {n : Nat} {f : Nat → Int32} {tx : List (List Nat)} {cN : Nat} {A : Nat → Nat} {N mj : Nat} {E : List (Nat × Nat)} {n2 : Nat} {k i : Int32} (hR : RS g m0 q z I R M) (hi18 : I 18 = some (nI n2)) (hi51 : I 51 = some 0) (hi52 : I 52 = some (nI N)) (hi53 : I 53 = some (nI mj)) (hF : FK n f I R) (hY : SYT tx cN A I R) (hP : RPV f n E tx N I R) (hEP : EP f n E) (hN : N < 65536) (hmj : mj < 65536) (hn2 : n2 ≤ 65540) (h0 : tg f E 0 = 0) (ht : ¬ tg f E k.toNatClampNeg = 1) : pt (mT g) 186 [.ref m0, .int k, .int i] M (fun v M' => (∃  (I' : rI) (R' : rR), v = some (.int (-1)) ∧ RS g m0 q z I' R' M' ∧ eqI [0] I I' ∧ eqR [] R R' ∧ I' 0 = some 0)) := by
  refine pt_in (b := mb_186 g) rfl (fun kf => ?_)
  show pl (mT g) kf (mb_186 g).2 (0, [(0, .ref m0), (1, .int k), (2, .int i)], [], M) _
  have hEI : eqI [0] I I := eqI.rf
  have hER : eqR [] R R := eqR.rf
  refine ps_st (S' := (1, [(0, .ref m0), (1, .int k), (2, .int i)], [.ref m0], M)) rfl rfl rfl ?_
  refine ps_st (S' := (2, [(0, .ref m0), (1, .int k), (2, .int i)], [.int 0, .ref m0], M)) rfl rfl rfl ?_
  refine pr_put (j := 0) rfl hR rfl (fun M1 I2 hR3 hi4 hI5 => ?_)
  have hi6 := (hI5 18 (by decide)).trans hi18
  have hi7 := (hI5 51 (by decide)).trans hi51
  have hi8 := (hI5 52 (by decide)).trans hi52
  have hi9 := (hI5 53 (by decide)).trans hi53
  have hF_10 := hF.mono (pIx hI5 (by decide)) (fun _ _ => rfl)
  have hY_11 := hY.mono (pIx hI5 (by decide)) (fun _ _ => rfl)
  have hP_12 := hP.mono (pIx hI5 (by decide)) (fun _ _ => rfl)
  have hEI13 := hEI.put hI5 (by decide)
  show pl _ _ _ (5, [(0, .ref m0), (1, .int k), (2, .int i)], [], M1) _
  refine ps_st (S' := (6, [(0, .ref m0), (1, .int k), (2, .int i)], [.ref m0], M1)) rfl rfl rfl ?_
  refine pr_int (j := 18) (S' := (9, [(0, .ref m0), (1, .int k), (2, .int i)], [.int (nI n2)], M1)) rfl hR3 rfl hi6 rfl ?_
  refine ps_if (S1 := (38, [], [], M1)) (S2 := (12, [(0, .ref m0), (1, .int k), (2, .int i)], [], M1)) rfl rfl rfl (fun c_9 => ?_) (fun c_9 => ?_)
  · exact absurd (of_decide_eq_true c_9) (show ¬ ((nI n2) < 0) from fun h9 => absurd ((lt_nI (p := n2) (n := 0) (by omega) (by decide)).mp h9) (by omega))
  refine ps_st (S' := (13, [(0, .ref m0), (1, .int k), (2, .int i)], [.ref m0], M1)) rfl rfl rfl ?_
  refine ps_st (S' := (14, [(0, .ref m0), (1, .int k), (2, .int i)], [.int k, .ref m0], M1)) rfl rfl rfl ?_
  refine pl_call (a := [.ref m0, .int k]) (rest := []) rfl rfl rfl (rd_tagR (n := n) (f := f) (tx := tx) (cN := cN) (A := A) (N := N) (mj := mj) (E := E) (k := k) hR3 hi7 hi8 hi9 hF_10 hY_11 hP_12 (hEP) (hN) (hmj) (h0)) (fun v14 M15 q16 => ?_)
  obtain ⟨rfl, rfl⟩ := q16
  show pl _ _ _ (17, [(0, .ref m0), (1, .int k), (2, .int i)], [.int (nI (tg f E k.toNatClampNeg))], M1) _
  have htg9 := tg_lt f E k.toNatClampNeg
  refine ps_st (S' := (18, [(0, .ref m0), (1, .int k), (2, .int i)], [.int 1, .int (nI (tg f E k.toNatClampNeg))], M1)) rfl rfl rfl ?_
  refine ps_if2 (S1 := (38, [], [], M1)) (S2 := (21, [(0, .ref m0), (1, .int k), (2, .int i)], [], M1)) rfl rfl rfl (fun c_18 => ?_) (fun c_18 => ?_)
  rotate_left
  · exact absurd (show ¬ (nI (tg f E k.toNatClampNeg)) = 1 from fun h9 => ht ((eq_nI (p := tg f E k.toNatClampNeg) (n := 1) (by omega) (by decide)).mp h9)) (of_decide_eq_false c_18)
  refine ps_st (S' := (39, [], [.int (-1)], M1)) rfl rfl rfl ?_
  refine ps_st (S' := (52, [], [.int (-1)], M1)) rfl rfl rfl ?_
  exact ps_ret rfl rfl (⟨I2, R, rfl, hR3, hEI13, hER, hi4⟩)
set_option maxHeartbeats 1000000 in
theorem rd_characterN {g : xe_G} {m0 : Nat} {q : Nat → Nat} {z : Nat × Nat} {I : rI} {R : rR} {M : mi_H} {n : Nat} {f : Nat → Int32} {tx : List (List Nat)} {cN : Nat} {A : Nat → Nat} {N mj : Nat} {E : List (Nat × Nat)} {n2 : Nat} {j : Nat} {i : Int32} (hR : RS g m0 q z I R M) (hi18 : I 18 = some (nI n2)) (hi51 : I 51 = some 0) (hi52 : I 52 = some (nI N)) (hi53 : I 53 = some (nI mj)) (hF : FK n f I R) (hY : SYT tx cN A I R) (hP : RPV f n E tx N I R) (hEP : EP f n E) (hN : N < 65536) (hmj : mj < 65536) (hn2 : n2 ≤ 65540) (hj : j < 65536) (h1t : tg f E j = 1) (hi : i < 0 ∨ ¬ i < nI (tX f n E j).length) : pt (mT g) 186 [.ref m0, .int (nI j), .int i] M (fun v M' => (∃  (I' : rI) (R' : rR), v = some (.int (-1)) ∧ RS g m0 q z I' R' M' ∧ eqI [0] I I' ∧ eqR [] R R' ∧ I' 0 = some 0)) := by
  refine pt_in (b := mb_186 g) rfl (fun kf => ?_)
  show pl (mT g) kf (mb_186 g).2 (0, [(0, .ref m0), (1, .int (nI j)), (2, .int i)], [], M) _
  have hEI : eqI [0] I I := eqI.rf
  have hER : eqR [] R R := eqR.rf
  have hn := hF.1
  have hlx := tx_len f n E j
  refine ps_st (S' := (1, [(0, .ref m0), (1, .int (nI j)), (2, .int i)], [.ref m0], M)) rfl rfl rfl ?_
  refine ps_st (S' := (2, [(0, .ref m0), (1, .int (nI j)), (2, .int i)], [.int 0, .ref m0], M)) rfl rfl rfl ?_
  refine pr_put (j := 0) rfl hR rfl (fun M1 I2 hR3 hi4 hI5 => ?_)
  have hi6 := (hI5 18 (by decide)).trans hi18
  have hi7 := (hI5 51 (by decide)).trans hi51
  have hi8 := (hI5 52 (by decide)).trans hi52
  have hi9 := (hI5 53 (by decide)).trans hi53
  have hF_10 := hF.mono (pIx hI5 (by decide)) (fun _ _ => rfl)
  have hY_11 := hY.mono (pIx hI5 (by decide)) (fun _ _ => rfl)
  have hP_12 := hP.mono (pIx hI5 (by decide)) (fun _ _ => rfl)
  have hEI13 := hEI.put hI5 (by decide)
  show pl _ _ _ (5, [(0, .ref m0), (1, .int (nI j)), (2, .int i)], [], M1) _
  refine ps_st (S' := (6, [(0, .ref m0), (1, .int (nI j)), (2, .int i)], [.ref m0], M1)) rfl rfl rfl ?_
  refine pr_int (j := 18) (S' := (9, [(0, .ref m0), (1, .int (nI j)), (2, .int i)], [.int (nI n2)], M1)) rfl hR3 rfl hi6 rfl ?_
  refine ps_if (S1 := (38, [], [], M1)) (S2 := (12, [(0, .ref m0), (1, .int (nI j)), (2, .int i)], [], M1)) rfl rfl rfl (fun c_9 => ?_) (fun c_9 => ?_)
  · exact absurd (of_decide_eq_true c_9) (show ¬ ((nI n2) < 0) from fun h9 => absurd ((lt_nI (p := n2) (n := 0) (by omega) (by decide)).mp h9) (by omega))
  refine ps_st (S' := (13, [(0, .ref m0), (1, .int (nI j)), (2, .int i)], [.ref m0], M1)) rfl rfl rfl ?_
  refine ps_st (S' := (14, [(0, .ref m0), (1, .int (nI j)), (2, .int i)], [.int (nI j), .ref m0], M1)) rfl rfl rfl ?_
  refine pl_call (a := [.ref m0, .int (nI j)]) (rest := []) rfl rfl rfl (rd_tag (n := n) (f := f) (tx := tx) (cN := cN) (A := A) (N := N) (mj := mj) (E := E) (k := j) hR3 hi7 hi8 hi9 hF_10 hY_11 hP_12 (hEP) (hN) (hmj) (by omega)) (fun v14 M15 q16 => ?_)
  obtain ⟨rfl, rfl⟩ := q16
  show pl _ _ _ (17, [(0, .ref m0), (1, .int (nI j)), (2, .int i)], [.int (nI (tg f E j))], M1) _
  have htg_14 := tg_lt f E j
  refine ps_st (S' := (18, [(0, .ref m0), (1, .int (nI j)), (2, .int i)], [.int 1, .int (nI (tg f E j))], M1)) rfl rfl rfl ?_
  refine ps_if2 (S1 := (38, [], [], M1)) (S2 := (21, [(0, .ref m0), (1, .int (nI j)), (2, .int i)], [], M1)) rfl rfl rfl (fun c_18 => ?_) (fun c_18 => ?_)
  · exact absurd (of_decide_eq_true c_18) (fun h9 => h9 (by rw [h1t]; rfl))
  refine ps_st (S' := (22, [(0, .ref m0), (1, .int (nI j)), (2, .int i)], [.int i], M1)) rfl rfl rfl ?_
  refine ps_if (S1 := (38, [], [], M1)) (S2 := (25, [(0, .ref m0), (1, .int (nI j)), (2, .int i)], [], M1)) rfl rfl rfl (fun c_22 => ?_) (fun c_22 => ?_)
  · have c_22 : i < 0 := of_decide_eq_true c_22
    refine ps_st (S' := (39, [], [.int (-1)], M1)) rfl rfl rfl ?_
    refine ps_st (S' := (52, [], [.int (-1)], M1)) rfl rfl rfl ?_
    exact ps_ret rfl rfl (⟨I2, R, rfl, hR3, hEI13, hER, hi4⟩)
  · have c_22 : ¬ (i < 0) := of_decide_eq_false c_22
    refine ps_st (S' := (26, [(0, .ref m0), (1, .int (nI j)), (2, .int i)], [.int i], M1)) rfl rfl rfl ?_
    refine ps_st (S' := (27, [(0, .ref m0), (1, .int (nI j)), (2, .int i)], [.ref m0, .int i], M1)) rfl rfl rfl ?_
    refine ps_st (S' := (28, [(0, .ref m0), (1, .int (nI j)), (2, .int i)], [.ref m0, .ref m0, .int i], M1)) rfl rfl rfl ?_
    refine ps_st (S' := (29, [(0, .ref m0), (1, .int (nI j)), (2, .int i)], [.int (nI j), .ref m0, .ref m0, .int i], M1)) rfl rfl rfl ?_
    refine pl_call (a := [.ref m0, .int (nI j)]) (rest := [.ref m0, .int i]) rfl rfl rfl (rd_symOf (n := n) (f := f) (tx := tx) (cN := cN) (A := A) (N := N) (mj := mj) (E := E) (k := j) hR3 hi7 hi8 hi9 hF_10 hY_11 hP_12 (hEP) (hN) (hmj) (by omega)) (fun v17 M18 q19 => ?_)
    obtain ⟨s20, q29_s, rfl, rfl⟩ := q19
    show pl _ _ _ (32, [(0, .ref m0), (1, .int (nI j)), (2, .int i)], [.int (nI s20), .ref m0, .int i], M1) _
    have hsl_29 := q29_s.1
    have htl_29 := hY_11.1.2.2.1
    refine pl_call (a := [.ref m0, .int (nI s20)]) (rest := [.int i]) rfl rfl rfl (rd_length (tx := tx) (cN := cN) (A := A) (s := s20) (l := (tX f n E j)) hR3 hY_11 (q29_s)) (fun v21 M22 q23 => ?_)
    obtain ⟨rfl, rfl⟩ := q23
    show pl _ _ _ (35, [(0, .ref m0), (1, .int (nI j)), (2, .int i)], [.int (nI ((tX f n E j).length)), .int i], M1) _
    refine ps_if2 (S1 := (42, [(0, .ref m0), (1, .int (nI j)), (2, .int i)], [], M1)) (S2 := (38, [], [], M1)) rfl rfl rfl (fun c_35 => ?_) (fun c_35 => ?_)
    · exact absurd (of_decide_eq_true c_35) (hi.resolve_left c_22)
    refine ps_st (S' := (39, [], [.int (-1)], M1)) rfl rfl rfl ?_
    refine ps_st (S' := (52, [], [.int (-1)], M1)) rfl rfl rfl ?_
    exact ps_ret rfl rfl (⟨I2, R, rfl, hR3, hEI13, hER, hi4⟩)
set_option maxHeartbeats 1000000 in
theorem rd_characterI {g : xe_G} {m0 : Nat} {q : Nat → Nat} {z : Nat × Nat} {I : rI} {R : rR} {M : mi_H} {n : Nat} {f : Nat → Int32} {tx : List (List Nat)} {cN : Nat} {A : Nat → Nat} {N mj : Nat} {E : List (Nat × Nat)} {n2 : Nat} {j t : Nat} (hR : RS g m0 q z I R M) (hi18 : I 18 = some (nI n2)) (hi51 : I 51 = some 0) (hi52 : I 52 = some (nI N)) (hi53 : I 53 = some (nI mj)) (hF : FK n f I R) (hY : SYT tx cN A I R) (hP : RPV f n E tx N I R) (hEP : EP f n E) (hN : N < 65536) (hmj : mj < 65536) (hn2 : n2 ≤ 65540) (hj : j < 65536) (h1t : tg f E j = 1) (ht : t < (tX f n E j).length) : pt (mT g) 186 [.ref m0, .int (nI j), .int (nI t)] M (fun v M' => (∃  (I' : rI) (R' : rR), v = some (.int (nI ((tX f n E j).getD t 0))) ∧ RS g m0 q z I' R' M' ∧ eqI [0] I I' ∧ eqR [] R R' ∧ I' 0 = some 0)) := by
  refine pt_in (b := mb_186 g) rfl (fun kf => ?_)
  show pl (mT g) kf (mb_186 g).2 (0, [(0, .ref m0), (1, .int (nI j)), (2, .int (nI t))], [], M) _
  have hEI : eqI [0] I I := eqI.rf
  have hER : eqR [] R R := eqR.rf
  have hn := hF.1
  have hlx := tx_len f n E j
  refine ps_st (S' := (1, [(0, .ref m0), (1, .int (nI j)), (2, .int (nI t))], [.ref m0], M)) rfl rfl rfl ?_
  refine ps_st (S' := (2, [(0, .ref m0), (1, .int (nI j)), (2, .int (nI t))], [.int 0, .ref m0], M)) rfl rfl rfl ?_
  refine pr_put (j := 0) rfl hR rfl (fun M1 I2 hR3 hi4 hI5 => ?_)
  have hi6 := (hI5 18 (by decide)).trans hi18
  have hi7 := (hI5 51 (by decide)).trans hi51
  have hi8 := (hI5 52 (by decide)).trans hi52
  have hi9 := (hI5 53 (by decide)).trans hi53
  have hF_10 := hF.mono (pIx hI5 (by decide)) (fun _ _ => rfl)
  have hY_11 := hY.mono (pIx hI5 (by decide)) (fun _ _ => rfl)
  have hP_12 := hP.mono (pIx hI5 (by decide)) (fun _ _ => rfl)
  have hEI13 := hEI.put hI5 (by decide)
  show pl _ _ _ (5, [(0, .ref m0), (1, .int (nI j)), (2, .int (nI t))], [], M1) _
  refine ps_st (S' := (6, [(0, .ref m0), (1, .int (nI j)), (2, .int (nI t))], [.ref m0], M1)) rfl rfl rfl ?_
  refine pr_int (j := 18) (S' := (9, [(0, .ref m0), (1, .int (nI j)), (2, .int (nI t))], [.int (nI n2)], M1)) rfl hR3 rfl hi6 rfl ?_
  refine ps_if (S1 := (38, [], [], M1)) (S2 := (12, [(0, .ref m0), (1, .int (nI j)), (2, .int (nI t))], [], M1)) rfl rfl rfl (fun c_9 => ?_) (fun c_9 => ?_)
  · exact absurd (of_decide_eq_true c_9) (show ¬ ((nI n2) < 0) from fun h9 => absurd ((lt_nI (p := n2) (n := 0) (by omega) (by decide)).mp h9) (by omega))
  refine ps_st (S' := (13, [(0, .ref m0), (1, .int (nI j)), (2, .int (nI t))], [.ref m0], M1)) rfl rfl rfl ?_
  refine ps_st (S' := (14, [(0, .ref m0), (1, .int (nI j)), (2, .int (nI t))], [.int (nI j), .ref m0], M1)) rfl rfl rfl ?_
  refine pl_call (a := [.ref m0, .int (nI j)]) (rest := []) rfl rfl rfl (rd_tag (n := n) (f := f) (tx := tx) (cN := cN) (A := A) (N := N) (mj := mj) (E := E) (k := j) hR3 hi7 hi8 hi9 hF_10 hY_11 hP_12 (hEP) (hN) (hmj) (by omega)) (fun v14 M15 q16 => ?_)
  obtain ⟨rfl, rfl⟩ := q16
  show pl _ _ _ (17, [(0, .ref m0), (1, .int (nI j)), (2, .int (nI t))], [.int (nI (tg f E j))], M1) _
  have htg_14 := tg_lt f E j
  refine ps_st (S' := (18, [(0, .ref m0), (1, .int (nI j)), (2, .int (nI t))], [.int 1, .int (nI (tg f E j))], M1)) rfl rfl rfl ?_
  refine ps_if2 (S1 := (38, [], [], M1)) (S2 := (21, [(0, .ref m0), (1, .int (nI j)), (2, .int (nI t))], [], M1)) rfl rfl rfl (fun c_18 => ?_) (fun c_18 => ?_)
  · exact absurd (of_decide_eq_true c_18) (fun h9 => h9 (by rw [h1t]; rfl))
  refine ps_st (S' := (22, [(0, .ref m0), (1, .int (nI j)), (2, .int (nI t))], [.int (nI t)], M1)) rfl rfl rfl ?_
  refine ps_if (S1 := (38, [], [], M1)) (S2 := (25, [(0, .ref m0), (1, .int (nI j)), (2, .int (nI t))], [], M1)) rfl rfl rfl (fun c_22 => ?_) (fun c_22 => ?_)
  · exact absurd (of_decide_eq_true c_22) (show ¬ ((nI t) < 0) from fun h9 => absurd ((lt_nI (p := t) (n := 0) (by omega) (by decide)).mp h9) (by omega))
  refine ps_st (S' := (26, [(0, .ref m0), (1, .int (nI j)), (2, .int (nI t))], [.int (nI t)], M1)) rfl rfl rfl ?_
  refine ps_st (S' := (27, [(0, .ref m0), (1, .int (nI j)), (2, .int (nI t))], [.ref m0, .int (nI t)], M1)) rfl rfl rfl ?_
  refine ps_st (S' := (28, [(0, .ref m0), (1, .int (nI j)), (2, .int (nI t))], [.ref m0, .ref m0, .int (nI t)], M1)) rfl rfl rfl ?_
  refine ps_st (S' := (29, [(0, .ref m0), (1, .int (nI j)), (2, .int (nI t))], [.int (nI j), .ref m0, .ref m0, .int (nI t)], M1)) rfl rfl rfl ?_
  refine pl_call (a := [.ref m0, .int (nI j)]) (rest := [.ref m0, .int (nI t)]) rfl rfl rfl (rd_symOf (n := n) (f := f) (tx := tx) (cN := cN) (A := A) (N := N) (mj := mj) (E := E) (k := j) hR3 hi7 hi8 hi9 hF_10 hY_11 hP_12 (hEP) (hN) (hmj) (by omega)) (fun v17 M18 q19 => ?_)
  obtain ⟨s20, q29_s, rfl, rfl⟩ := q19
  show pl _ _ _ (32, [(0, .ref m0), (1, .int (nI j)), (2, .int (nI t))], [.int (nI s20), .ref m0, .int (nI t)], M1) _
  have hsl_29 := q29_s.1
  have htl_29 := hY_11.1.2.2.1
  refine pl_call (a := [.ref m0, .int (nI s20)]) (rest := [.int (nI t)]) rfl rfl rfl (rd_length (tx := tx) (cN := cN) (A := A) (s := s20) (l := (tX f n E j)) hR3 hY_11 (q29_s)) (fun v21 M22 q23 => ?_)
  obtain ⟨rfl, rfl⟩ := q23
  show pl _ _ _ (35, [(0, .ref m0), (1, .int (nI j)), (2, .int (nI t))], [.int (nI ((tX f n E j).length)), .int (nI t)], M1) _
  refine ps_if2 (S1 := (42, [(0, .ref m0), (1, .int (nI j)), (2, .int (nI t))], [], M1)) (S2 := (38, [], [], M1)) rfl rfl rfl (fun c_35 => ?_) (fun c_35 => ?_)
  rotate_left
  · exact absurd ((lt_nI (by omega) (by omega)).mpr ht) (of_decide_eq_false c_35)
  refine ps_st (S' := (43, [(0, .ref m0), (1, .int (nI j)), (2, .int (nI t))], [.ref m0], M1)) rfl rfl rfl ?_
  refine ps_st (S' := (44, [(0, .ref m0), (1, .int (nI j)), (2, .int (nI t))], [.ref m0, .ref m0], M1)) rfl rfl rfl ?_
  refine ps_st (S' := (45, [(0, .ref m0), (1, .int (nI j)), (2, .int (nI t))], [.int (nI j), .ref m0, .ref m0], M1)) rfl rfl rfl ?_
  refine pl_call (a := [.ref m0, .int (nI j)]) (rest := [.ref m0]) rfl rfl rfl (rd_symOf (n := n) (f := f) (tx := tx) (cN := cN) (A := A) (N := N) (mj := mj) (E := E) (k := j) hR3 hi7 hi8 hi9 hF_10 hY_11 hP_12 (hEP) (hN) (hmj) (by omega)) (fun v24 M25 q26 => ?_)
  obtain ⟨s27, q45_s, rfl, rfl⟩ := q26
  show pl _ _ _ (48, [(0, .ref m0), (1, .int (nI j)), (2, .int (nI t))], [.int (nI s27), .ref m0], M1) _
  have hsl_45 := q45_s.1
  have htl_45 := hY_11.1.2.2.1
  refine ps_st (S' := (49, [(0, .ref m0), (1, .int (nI j)), (2, .int (nI t))], [.int (nI t), .int (nI s27), .ref m0], M1)) rfl rfl rfl ?_
  refine pl_call (a := [.ref m0, .int (nI s27), .int (nI t)]) (rest := []) rfl rfl rfl (rd_at (tx := tx) (cN := cN) (A := A) (s := s27) (l := (tX f n E j)) (k := t) hR3 hY_11 (q45_s) (ht)) (fun v28 M29 q30 => ?_)
  obtain ⟨rfl, rfl⟩ := q30
  show pl _ _ _ (52, [], [.int (nI ((tX f n E j).getD t 0))], M1) _
  exact ps_reti rfl (⟨I2, R, rfl, hR3, hEI13, hER, hi4⟩)
theorem rd_character {g : xe_G} {m0 : Nat} {q : Nat → Nat} {z : Nat × Nat} {I : rI} {R : rR} {M : mi_H} {ko : Option (Nat × (Nat → Int32))} {k i : Int32} (hR : RS g m0 q z I R M) (hK : KPR ko I R) : pt (mT g) 186 [.ref m0, .int k, .int i] M (fun v M' => ∃ (I' : rI) (R' : rR), v = some (.int (chK ko k i)) ∧ RS g m0 q z I' R' M' ∧ eqI [0] I I' ∧ eqR [] R R' ∧ I' 0 = some 0) := by
  cases ko with
  | none =>
    obtain ⟨kn, h1, h2⟩ := hK
    exact rd_character0 hR h1 h2
  | some r =>
    obtain ⟨h1, h2, -, -, tx, cN, A, E, N, mj, p1, pF, pM, pA, k1, k2, k3, k4, k5, k6, k7, rfl, rfl, -⟩ := hK
    rw [chK_is k7]
    have hN := by2_lt r.2 8
    have hpl := whole_in k7
    have hEP := (EP_of hpl).1
    have h0 := tg_0 hpl
    unfold chI
    by_cases ht : tg r.2 E k.toNatClampNeg = 1
    · have hk0 : ¬ k < 0 := fun h9 => by rw [i32_cl h9, h0] at ht; cases ht
      have e := i32_nn hk0
      obtain ⟨j, ej⟩ : ∃ j, j = k.toNatClampNeg := ⟨_, rfl⟩
      rw [← ej] at e ht ⊢
      have hj : j < 65536 := Nat.not_le.mp (fun h9 => by
        unfold tg at ht
        rw [lk_hi k3.1 (Or.inr (by omega))] at ht
        cases ht)
      subst e
      have hl := tx_len r.2 r.1 E j
      by_cases hi : i < 0 ∨ ¬ i < nI (tX r.2 r.1 E j).length
      · rw [if_neg (fun q => hi.elim q.2.1 (fun h9 => h9 (i32_lt (by omega) q.2.1 q.2.2)))]
        exact rd_characterN hR h1 k4 k5 k6 k1 k2 k3 hEP hN (by2_lt _ _) h2 hj ht hi
      · have hi0 : ¬ i < 0 := fun h9 => hi (Or.inl h9)
        have hi1 : i.toNatClampNeg < (tX r.2 r.1 E j).length := Nat.not_le.mp (fun h9 => hi (Or.inr (fun h8 => by
          have h7 := Int32.lt_iff_toInt_lt.mp h8
          rw [nI_val (by omega)] at h7
          have h6 := i32_to hi0
          omega)))
        rw [if_pos ⟨ht, hi0, hi1⟩]
        have e2 := i32_nn hi0
        obtain ⟨t, et⟩ : ∃ t, t = i.toNatClampNeg := ⟨_, rfl⟩
        rw [← et] at e2 hi1 ⊢
        subst e2
        exact rd_characterI hR h1 k4 k5 k6 k1 k2 k3 hEP hN (by2_lt _ _) h2 hj ht hi1
    · rw [if_neg (fun q => ht q.1)]
      exact rd_characterT hR h1 k4 k5 k6 k1 k2 k3 hEP hN (by2_lt _ _) h2 h0 ht
