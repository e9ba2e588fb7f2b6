theorem dk_u1 {g : xe_G} {M : mi_H} {f : Nat → Int32} {n b da p : Nat} (h_b : M.1 b = some (ob 1 [.ref da])) (h_da : M.1 da = some (ar .byte n f)) (hn : n ≤ 65540) (hin : p + 1 ≤ n) : pt (mT g) 48 [.ref b, .int (nI p)] M (fun v M' => (v = some (.int (nI (by1 f p))) ∧ M = M')) := (ct_u1 ⟨h_b, h_da, by omega⟩ (d := 3) (by decide)).pt.mono (fun v M' h => ⟨by rw [h.1, u1_nI hn (by omega)], h.2.symm⟩)
set_option maxHeartbeats 1000000 in
theorem dk_iu1 {g : xe_G} {M : mi_H} {f : Nat → Int32} {n on b da cb L : Nat} {y3 y4 y5 y6 y7 y8 y9 y10 y11 : Int32} {a : Nat} (h_on : M.1 on = some (ob 5 [.ref b, .int (nI cb), .int (nI L), .int y3, .int y4, .int y5, .int y6, .int y7, .int y8, .int y9, .int y10, .int y11])) (h_b : M.1 b = some (ob 1 [.ref da])) (h_da : M.1 da = some (ar .byte n f)) (hn : n ≤ 65540) (hin : cb + a + 1 ≤ n) : pt (mT g) 104 [.ref on, .int (nI a)] M (fun v M' => (v = some (.int (nI (by1 f (cb + a)))) ∧ M = M')) := by
  refine pt_in (b := mb_104 g) rfl (fun kf => ?_)
  show pl (mT g) kf (mb_104 g).2 (0, [(0, .ref on), (1, .int (nI a))], [], M) _
  refine ps_st (S' := (1, [(0, .ref on), (1, .int (nI a))], [.ref on], M)) rfl rfl rfl ?_
  refine ps_get (S' := (4, [(0, .ref on), (1, .int (nI a))], [.ref b], M)) rfl h_on rfl rfl ?_
  refine ps_st (S' := (5, [(0, .ref on), (1, .int (nI a))], [.ref on, .ref b], M)) rfl rfl rfl ?_
  refine ps_get (S' := (8, [(0, .ref on), (1, .int (nI a))], [.int (nI cb), .ref b], M)) rfl h_on rfl rfl ?_
  refine ps_st (S' := (9, [(0, .ref on), (1, .int (nI a))], [.int (nI a), .int (nI cb), .ref b], M)) rfl rfl rfl ?_
  refine ps_st (S' := (10, [(0, .ref on), (1, .int (nI a))], [.int ((nI cb) + (nI a)), .ref b], M)) rfl rfl rfl ?_
  rw [nI_add1 (p := cb) (k := a) (x := (nI a)) rfl (by omega)]
  show pl _ _ _ (_, [(0, .ref on), (1, .int (nI a))], [.int (nI (cb + a)), .ref b], M) _
  refine pl_call (a := [.ref b, .int (nI (cb + a))]) (rest := []) rfl rfl rfl (dk_u1 (f := f) (n := n) (b := b) (da := da) (p := (cb + a)) h_b h_da (hn) (by omega)) (fun v1 M2 q3 => ?_)
  obtain ⟨rfl, rfl⟩ := q3
  show pl _ _ _ (13, [(0, .ref on), (1, .int (nI a))], [.int (nI (by1 f (cb + a)))], M) _
  exact ps_reti rfl (⟨rfl, rfl⟩)
set_option maxHeartbeats 1000000 in
theorem dk_iu2 {g : xe_G} {M : mi_H} {f : Nat → Int32} {n on b da cb L : Nat} {y3 y4 y5 y6 y7 y8 y9 y10 y11 : Int32} {a : Nat} (h_on : M.1 on = some (ob 5 [.ref b, .int (nI cb), .int (nI L), .int y3, .int y4, .int y5, .int y6, .int y7, .int y8, .int y9, .int y10, .int y11])) (h_b : M.1 b = some (ob 1 [.ref da])) (h_da : M.1 da = some (ar .byte n f)) (hn : n ≤ 65540) (hin : cb + a + 2 ≤ n) : pt (mT g) 105 [.ref on, .int (nI a)] M (fun v M' => (v = some (.int (nI (by2 f (cb + a)))) ∧ M = M')) := by
  refine pt_in (b := mb_105 g) rfl (fun kf => ?_)
  show pl (mT g) kf (mb_105 g).2 (0, [(0, .ref on), (1, .int (nI a))], [], M) _
  refine ps_st (S' := (1, [(0, .ref on), (1, .int (nI a))], [.ref on], M)) rfl rfl rfl ?_
  refine ps_get (S' := (4, [(0, .ref on), (1, .int (nI a))], [.ref b], M)) rfl h_on rfl rfl ?_
  refine ps_st (S' := (5, [(0, .ref on), (1, .int (nI a))], [.ref on, .ref b], M)) rfl rfl rfl ?_
  refine ps_get (S' := (8, [(0, .ref on), (1, .int (nI a))], [.int (nI cb), .ref b], M)) rfl h_on rfl rfl ?_
  refine ps_st (S' := (9, [(0, .ref on), (1, .int (nI a))], [.int (nI a), .int (nI cb), .ref b], M)) rfl rfl rfl ?_
  refine ps_st (S' := (10, [(0, .ref on), (1, .int (nI a))], [.int ((nI cb) + (nI a)), .ref b], M)) rfl rfl rfl ?_
  rw [nI_add1 (p := cb) (k := a) (x := (nI a)) rfl (by omega)]
  show pl _ _ _ (_, [(0, .ref on), (1, .int (nI a))], [.int (nI (cb + a)), .ref b], M) _
  refine pl_call (a := [.ref b, .int (nI (cb + a))]) (rest := []) rfl rfl rfl (dk_u2 (f := f) (n := n) (b := b) (da := da) (p := (cb + a)) h_b h_da (hn) (by omega)) (fun v1 M2 q3 => ?_)
  obtain ⟨rfl, rfl⟩ := q3
  show pl _ _ _ (13, [(0, .ref on), (1, .int (nI a))], [.int (nI (by2 f (cb + a)))], M) _
  exact ps_reti rfl (⟨rfl, rfl⟩)
set_option maxHeartbeats 1000000 in
theorem dk_is4 {g : xe_G} {M : mi_H} {f : Nat → Int32} {n on b da cb L : Nat} {y3 y4 y5 y6 y7 y8 y9 y10 y11 : Int32} {a : Nat} (h_on : M.1 on = some (ob 5 [.ref b, .int (nI cb), .int (nI L), .int y3, .int y4, .int y5, .int y6, .int y7, .int y8, .int y9, .int y10, .int y11])) (h_b : M.1 b = some (ob 1 [.ref da])) (h_da : M.1 da = some (ar .byte n f)) (hn : n ≤ 65540) (hin : cb + a + 4 ≤ n) : pt (mT g) 101 [.ref on, .int (nI a)] M (fun v M' => (v = some (.int (nI (by4 f (cb + a)))) ∧ M = M')) := by
  refine pt_in (b := mb_101 g) rfl (fun kf => ?_)
  show pl (mT g) kf (mb_101 g).2 (0, [(0, .ref on), (1, .int (nI a))], [], M) _
  refine ps_st (S' := (1, [(0, .ref on), (1, .int (nI a))], [.ref on], M)) rfl rfl rfl ?_
  refine ps_get (S' := (4, [(0, .ref on), (1, .int (nI a))], [.ref b], M)) rfl h_on rfl rfl ?_
  refine ps_st (S' := (5, [(0, .ref on), (1, .int (nI a))], [.ref on, .ref b], M)) rfl rfl rfl ?_
  refine ps_get (S' := (8, [(0, .ref on), (1, .int (nI a))], [.int (nI cb), .ref b], M)) rfl h_on rfl rfl ?_
  refine ps_st (S' := (9, [(0, .ref on), (1, .int (nI a))], [.int (nI a), .int (nI cb), .ref b], M)) rfl rfl rfl ?_
  refine ps_st (S' := (10, [(0, .ref on), (1, .int (nI a))], [.int ((nI cb) + (nI a)), .ref b], M)) rfl rfl rfl ?_
  rw [nI_add1 (p := cb) (k := a) (x := (nI a)) rfl (by omega)]
  show pl _ _ _ (_, [(0, .ref on), (1, .int (nI a))], [.int (nI (cb + a)), .ref b], M) _
  refine pl_call (a := [.ref b, .int (nI (cb + a))]) (rest := []) rfl rfl rfl (dk_u4 (f := f) (n := n) (b := b) (da := da) (p := (cb + a)) h_b h_da (hn) (by omega)) (fun v1 M2 q3 => ?_)
  obtain ⟨rfl, rfl⟩ := q3
  show pl _ _ _ (13, [(0, .ref on), (1, .int (nI a))], [.int (nI (by4 f (cb + a)))], M) _
  exact ps_reti rfl (⟨rfl, rfl⟩)
set_option maxHeartbeats 1000000 in
theorem dk_isLocalOpcode {g : xe_G} {M : mi_H} {o : Nat}  (ho : o < 65536) : pt (mT g) 91 [.int (nI o)] M (fun v M' => (v = some (.int (nI (lcO o))) ∧ M = M')) := by
  refine pt_in (b := mb_91 g) rfl (fun kf => ?_)
  show pl (mT g) kf (mb_91 g).2 (0, [(0, .int (nI o))], [], M) _
  refine ps_st (S' := (1, [(0, .int (nI o))], [.int (nI o)], M)) rfl rfl rfl ?_
  refine ps_st (S' := (3, [(0, .int (nI o))], [.int 21, .int (nI o)], M)) rfl rfl rfl ?_
  refine ps_if2 (S1 := (12, [(0, .int (nI o))], [], M)) (S2 := (6, [(0, .int (nI o))], [], M)) rfl rfl rfl (fun c_3 => ?_) (fun c_3 => ?_)
  · have c_3 : (nI o) < 21 := of_decide_eq_true c_3
    have n_3 : o < 21 := (lt_nI (p := o) (n := 21) (by omega) (by decide)).mp c_3
    refine ps_st (S' := (13, [(0, .int (nI o))], [.int (nI o)], M)) rfl rfl rfl ?_
    refine ps_st (S' := (15, [(0, .int (nI o))], [.int 54, .int (nI o)], M)) rfl rfl rfl ?_
    refine ps_if2 (S1 := (24, [(0, .int (nI o))], [], M)) (S2 := (18, [(0, .int (nI o))], [], M)) rfl rfl rfl (fun c_15 => ?_) (fun c_15 => ?_)
    · have c_15 : (nI o) < 54 := of_decide_eq_true c_15
      have n_15 : o < 54 := (lt_nI (p := o) (n := 54) (by omega) (by decide)).mp c_15
      refine ps_st (S' := (25, [(0, .int (nI o))], [.int (nI o)], M)) rfl rfl rfl ?_
      refine ps_st (S' := (28, [(0, .int (nI o))], [.int 169, .int (nI o)], M)) rfl rfl rfl ?_
      refine ps_if2 (S1 := (35, [(0, .int (nI o))], [], M)) (S2 := (31, [], [], M)) rfl rfl rfl (fun c_28 => ?_) (fun c_28 => ?_)
      · have c_28 : ¬ (nI o) = 169 := of_decide_eq_true c_28
        have n_28 : ¬ (o = 169) := fun h9 => c_28 ((eq_nI (p := o) (n := 169) (by omega) (by decide)).mpr h9)
        refine ps_st (S' := (36, [], [.int 0], M)) rfl rfl rfl ?_
        exact ps_ret rfl rfl (⟨congrArg (fun x => some (Value.int (nI x))) (show 0 = lcO o from by
            unfold lcO
            first | ((repeat first | rw [if_pos (by omega)] | rw [if_neg (by omega)]) <;> first | rfl | omega) | ((repeat' split) <;> first | rfl | (exfalso; omega) | omega)), rfl⟩)
      · have c_28 : ¬ (¬ (nI o) = 169) := of_decide_eq_false c_28
        have n_28 : o = 169 := (eq_nI (p := o) (n := 169) (by omega) (by decide)).mp (Decidable.not_not.mp c_28)
        refine ps_st (S' := (32, [], [.int 1], M)) rfl rfl rfl ?_
        refine ps_st (S' := (36, [], [.int 1], M)) rfl rfl rfl ?_
        exact ps_ret rfl rfl (⟨congrArg (fun x => some (Value.int (nI x))) (show 1 = lcO o from by
            unfold lcO
            first | ((repeat first | rw [if_pos (by omega)] | rw [if_neg (by omega)]) <;> first | rfl | omega) | ((repeat' split) <;> first | rfl | (exfalso; omega) | omega)), rfl⟩)
    · have c_15 : ¬ ((nI o) < 54) := of_decide_eq_false c_15
      have n_15 : ¬ (o < 54) := fun h9 => c_15 ((lt_nI (p := o) (n := 54) (by omega) (by decide)).mpr h9)
      refine ps_st (S' := (19, [(0, .int (nI o))], [.int (nI o)], M)) rfl rfl rfl ?_
      refine ps_st (S' := (21, [(0, .int (nI o))], [.int 58, .int (nI o)], M)) rfl rfl rfl ?_
      refine ps_if2 (S1 := (31, [], [], M)) (S2 := (24, [(0, .int (nI o))], [], M)) rfl rfl rfl (fun c_21 => ?_) (fun c_21 => ?_)
      · have c_21 : (nI o) ≤ 58 := of_decide_eq_true c_21
        have n_21 : o ≤ 58 := (le_nI (p := o) (n := 58) (by omega) (by decide)).mp c_21
        refine ps_st (S' := (32, [], [.int 1], M)) rfl rfl rfl ?_
        refine ps_st (S' := (36, [], [.int 1], M)) rfl rfl rfl ?_
        exact ps_ret rfl rfl (⟨congrArg (fun x => some (Value.int (nI x))) (show 1 = lcO o from by
            unfold lcO
            first | ((repeat first | rw [if_pos (by omega)] | rw [if_neg (by omega)]) <;> first | rfl | omega) | ((repeat' split) <;> first | rfl | (exfalso; omega) | omega)), rfl⟩)
      · have c_21 : ¬ ((nI o) ≤ 58) := of_decide_eq_false c_21
        have n_21 : ¬ (o ≤ 58) := fun h9 => c_21 ((le_nI (p := o) (n := 58) (by omega) (by decide)).mpr h9)
        refine ps_st (S' := (25, [(0, .int (nI o))], [.int (nI o)], M)) rfl rfl rfl ?_
        refine ps_st (S' := (28, [(0, .int (nI o))], [.int 169, .int (nI o)], M)) rfl rfl rfl ?_
        refine ps_if2 (S1 := (35, [(0, .int (nI o))], [], M)) (S2 := (31, [], [], M)) rfl rfl rfl (fun c_28 => ?_) (fun c_28 => ?_)
        · have c_28 : ¬ (nI o) = 169 := of_decide_eq_true c_28
          have n_28 : ¬ (o = 169) := fun h9 => c_28 ((eq_nI (p := o) (n := 169) (by omega) (by decide)).mpr h9)
          refine ps_st (S' := (36, [], [.int 0], M)) rfl rfl rfl ?_
          exact ps_ret rfl rfl (⟨congrArg (fun x => some (Value.int (nI x))) (show 0 = lcO o from by
              unfold lcO
              first | ((repeat first | rw [if_pos (by omega)] | rw [if_neg (by omega)]) <;> first | rfl | omega) | ((repeat' split) <;> first | rfl | (exfalso; omega) | omega)), rfl⟩)
        · have c_28 : ¬ (¬ (nI o) = 169) := of_decide_eq_false c_28
          have n_28 : o = 169 := (eq_nI (p := o) (n := 169) (by omega) (by decide)).mp (Decidable.not_not.mp c_28)
          refine ps_st (S' := (32, [], [.int 1], M)) rfl rfl rfl ?_
          refine ps_st (S' := (36, [], [.int 1], M)) rfl rfl rfl ?_
          exact ps_ret rfl rfl (⟨congrArg (fun x => some (Value.int (nI x))) (show 1 = lcO o from by
              unfold lcO
              first | ((repeat first | rw [if_pos (by omega)] | rw [if_neg (by omega)]) <;> first | rfl | omega) | ((repeat' split) <;> first | rfl | (exfalso; omega) | omega)), rfl⟩)
  · have c_3 : ¬ ((nI o) < 21) := of_decide_eq_false c_3
    have n_3 : ¬ (o < 21) := fun h9 => c_3 ((lt_nI (p := o) (n := 21) (by omega) (by decide)).mpr h9)
    refine ps_st (S' := (7, [(0, .int (nI o))], [.int (nI o)], M)) rfl rfl rfl ?_
    refine ps_st (S' := (9, [(0, .int (nI o))], [.int 25, .int (nI o)], M)) rfl rfl rfl ?_
    refine ps_if2 (S1 := (31, [], [], M)) (S2 := (12, [(0, .int (nI o))], [], M)) rfl rfl rfl (fun c_9 => ?_) (fun c_9 => ?_)
    · have c_9 : (nI o) ≤ 25 := of_decide_eq_true c_9
      have n_9 : o ≤ 25 := (le_nI (p := o) (n := 25) (by omega) (by decide)).mp c_9
      refine ps_st (S' := (32, [], [.int 1], M)) rfl rfl rfl ?_
      refine ps_st (S' := (36, [], [.int 1], M)) rfl rfl rfl ?_
      exact ps_ret rfl rfl (⟨congrArg (fun x => some (Value.int (nI x))) (show 1 = lcO o from by
          unfold lcO
          first | ((repeat first | rw [if_pos (by omega)] | rw [if_neg (by omega)]) <;> first | rfl | omega) | ((repeat' split) <;> first | rfl | (exfalso; omega) | omega)), rfl⟩)
    · have c_9 : ¬ ((nI o) ≤ 25) := of_decide_eq_false c_9
      have n_9 : ¬ (o ≤ 25) := fun h9 => c_9 ((le_nI (p := o) (n := 25) (by omega) (by decide)).mpr h9)
      refine ps_st (S' := (13, [(0, .int (nI o))], [.int (nI o)], M)) rfl rfl rfl ?_
      refine ps_st (S' := (15, [(0, .int (nI o))], [.int 54, .int (nI o)], M)) rfl rfl rfl ?_
      refine ps_if2 (S1 := (24, [(0, .int (nI o))], [], M)) (S2 := (18, [(0, .int (nI o))], [], M)) rfl rfl rfl (fun c_15 => ?_) (fun c_15 => ?_)
      · have c_15 : (nI o) < 54 := of_decide_eq_true c_15
        have n_15 : o < 54 := (lt_nI (p := o) (n := 54) (by omega) (by decide)).mp c_15
        refine ps_st (S' := (25, [(0, .int (nI o))], [.int (nI o)], M)) rfl rfl rfl ?_
        refine ps_st (S' := (28, [(0, .int (nI o))], [.int 169, .int (nI o)], M)) rfl rfl rfl ?_
        refine ps_if2 (S1 := (35, [(0, .int (nI o))], [], M)) (S2 := (31, [], [], M)) rfl rfl rfl (fun c_28 => ?_) (fun c_28 => ?_)
        · have c_28 : ¬ (nI o) = 169 := of_decide_eq_true c_28
          have n_28 : ¬ (o = 169) := fun h9 => c_28 ((eq_nI (p := o) (n := 169) (by omega) (by decide)).mpr h9)
          refine ps_st (S' := (36, [], [.int 0], M)) rfl rfl rfl ?_
          exact ps_ret rfl rfl (⟨congrArg (fun x => some (Value.int (nI x))) (show 0 = lcO o from by
              unfold lcO
              first | ((repeat first | rw [if_pos (by omega)] | rw [if_neg (by omega)]) <;> first | rfl | omega) | ((repeat' split) <;> first | rfl | (exfalso; omega) | omega)), rfl⟩)
        · have c_28 : ¬ (¬ (nI o) = 169) := of_decide_eq_false c_28
          have n_28 : o = 169 := (eq_nI (p := o) (n := 169) (by omega) (by decide)).mp (Decidable.not_not.mp c_28)
          refine ps_st (S' := (32, [], [.int 1], M)) rfl rfl rfl ?_
          refine ps_st (S' := (36, [], [.int 1], M)) rfl rfl rfl ?_
          exact ps_ret rfl rfl (⟨congrArg (fun x => some (Value.int (nI x))) (show 1 = lcO o from by
              unfold lcO
              first | ((repeat first | rw [if_pos (by omega)] | rw [if_neg (by omega)]) <;> first | rfl | omega) | ((repeat' split) <;> first | rfl | (exfalso; omega) | omega)), rfl⟩)
      · have c_15 : ¬ ((nI o) < 54) := of_decide_eq_false c_15
        have n_15 : ¬ (o < 54) := fun h9 => c_15 ((lt_nI (p := o) (n := 54) (by omega) (by decide)).mpr h9)
        refine ps_st (S' := (19, [(0, .int (nI o))], [.int (nI o)], M)) rfl rfl rfl ?_
        refine ps_st (S' := (21, [(0, .int (nI o))], [.int 58, .int (nI o)], M)) rfl rfl rfl ?_
        refine ps_if2 (S1 := (31, [], [], M)) (S2 := (24, [(0, .int (nI o))], [], M)) rfl rfl rfl (fun c_21 => ?_) (fun c_21 => ?_)
        · have c_21 : (nI o) ≤ 58 := of_decide_eq_true c_21
          have n_21 : o ≤ 58 := (le_nI (p := o) (n := 58) (by omega) (by decide)).mp c_21
          refine ps_st (S' := (32, [], [.int 1], M)) rfl rfl rfl ?_
          refine ps_st (S' := (36, [], [.int 1], M)) rfl rfl rfl ?_
          exact ps_ret rfl rfl (⟨congrArg (fun x => some (Value.int (nI x))) (show 1 = lcO o from by
              unfold lcO
              first | ((repeat first | rw [if_pos (by omega)] | rw [if_neg (by omega)]) <;> first | rfl | omega) | ((repeat' split) <;> first | rfl | (exfalso; omega) | omega)), rfl⟩)
        · have c_21 : ¬ ((nI o) ≤ 58) := of_decide_eq_false c_21
          have n_21 : ¬ (o ≤ 58) := fun h9 => c_21 ((le_nI (p := o) (n := 58) (by omega) (by decide)).mpr h9)
          refine ps_st (S' := (25, [(0, .int (nI o))], [.int (nI o)], M)) rfl rfl rfl ?_
          refine ps_st (S' := (28, [(0, .int (nI o))], [.int 169, .int (nI o)], M)) rfl rfl rfl ?_
          refine ps_if2 (S1 := (35, [(0, .int (nI o))], [], M)) (S2 := (31, [], [], M)) rfl rfl rfl (fun c_28 => ?_) (fun c_28 => ?_)
          · have c_28 : ¬ (nI o) = 169 := of_decide_eq_true c_28
            have n_28 : ¬ (o = 169) := fun h9 => c_28 ((eq_nI (p := o) (n := 169) (by omega) (by decide)).mpr h9)
            refine ps_st (S' := (36, [], [.int 0], M)) rfl rfl rfl ?_
            exact ps_ret rfl rfl (⟨congrArg (fun x => some (Value.int (nI x))) (show 0 = lcO o from by
                unfold lcO
                first | ((repeat first | rw [if_pos (by omega)] | rw [if_neg (by omega)]) <;> first | rfl | omega) | ((repeat' split) <;> first | rfl | (exfalso; omega) | omega)), rfl⟩)
          · have c_28 : ¬ (¬ (nI o) = 169) := of_decide_eq_false c_28
            have n_28 : o = 169 := (eq_nI (p := o) (n := 169) (by omega) (by decide)).mp (Decidable.not_not.mp c_28)
            refine ps_st (S' := (32, [], [.int 1], M)) rfl rfl rfl ?_
            refine ps_st (S' := (36, [], [.int 1], M)) rfl rfl rfl ?_
            exact ps_ret rfl rfl (⟨congrArg (fun x => some (Value.int (nI x))) (show 1 = lcO o from by
                unfold lcO
                first | ((repeat first | rw [if_pos (by omega)] | rw [if_neg (by omega)]) <;> first | rfl | omega) | ((repeat' split) <;> first | rfl | (exfalso; omega) | omega)), rfl⟩)
set_option maxHeartbeats 1000000 in
theorem dk_sizeOf {g : xe_G} {M : mi_H} {o : Nat}  (ho : o < 65536) : pt (mT g) 102 [.int (nI o)] M (fun v M' => (v = some (.int (nI (szO o))) ∧ M = M')) := by
  refine pt_in (b := mb_102 g) rfl (fun kf => ?_)
  show pl (mT g) kf (mb_102 g).2 (0, [(0, .int (nI o))], [], M) _
  refine ps_st (S' := (1, [(0, .int (nI o))], [.int (nI o)], M)) rfl rfl rfl ?_
  refine ps_st (S' := (4, [(0, .int (nI o))], [.int 153, .int (nI o)], M)) rfl rfl rfl ?_
  refine ps_if2 (S1 := (14, [(0, .int (nI o))], [], M)) (S2 := (7, [(0, .int (nI o))], [], M)) rfl rfl rfl (fun c_4 => ?_) (fun c_4 => ?_)
  · have c_4 : (nI o) < 153 := of_decide_eq_true c_4
    have n_4 : o < 153 := (lt_nI (p := o) (n := 153) (by omega) (by decide)).mp c_4
    refine ps_st (S' := (15, [(0, .int (nI o))], [.int (nI o)], M)) rfl rfl rfl ?_
    refine ps_st (S' := (18, [(0, .int (nI o))], [.int 178, .int (nI o)], M)) rfl rfl rfl ?_
    refine ps_if2 (S1 := (30, [(0, .int (nI o))], [], M)) (S2 := (21, [(0, .int (nI o))], [], M)) rfl rfl rfl (fun c_18 => ?_) (fun c_18 => ?_)
    · have c_18 : (nI o) < 178 := of_decide_eq_true c_18
      have n_18 : o < 178 := (lt_nI (p := o) (n := 178) (by omega) (by decide)).mp c_18
      refine ps_st (S' := (31, [(0, .int (nI o))], [.int (nI o)], M)) rfl rfl rfl ?_
      refine pl_call (a := [.int (nI o)]) (rest := []) rfl rfl rfl (dk_isLocalOpcode (o := o) (ho)) (fun v1 M2 q3 => ?_)
      obtain ⟨rfl, rfl⟩ := q3
      show pl _ _ _ (34, [(0, .int (nI o))], [.int (nI (lcO o))], M) _
      have hlc := lcO_le o
      refine ps_if (S1 := (39, [(0, .int (nI o))], [], M)) (S2 := (37, [(0, .int (nI o))], [], M)) rfl rfl rfl (fun c_34 => ?_) (fun c_34 => ?_)
      · have c_34 : (nI (lcO o)) = 0 := of_decide_eq_true c_34
        have n_34 : lcO o = 0 := (eq_nI (p := lcO o) (n := 0) (by omega) (by decide)).mp c_34
        refine ps_st (S' := (40, [(0, .int (nI o))], [.int (nI o)], M)) rfl rfl rfl ?_
        refine pl_sw rfl (fun t_40 et_40 => ?_)
        have ht_40 : t_40 ∈ [196, 198, 200, 202, 204] := mi_sw_sub et_40 (by decide)
        simp only [List.mem_cons, List.not_mem_nil, or_false] at ht_40
        rcases ht_40 with rfl | rfl | rfl | rfl | rfl
        · show pl _ _ _ (196, [(0, .int (nI o))], [], M) _
          have m_40 := sw_nat (t := o) (by omega) et_40
          simp at m_40
          refine ps_st (S' := (197, [(0, .int (nI o))], [.int 2], M)) rfl rfl rfl ?_
          exact ps_ret rfl rfl (⟨congrArg (fun x => some (Value.int (nI x))) (show 2 = szO o from by
              unfold szO
              first | ((repeat first | rw [if_pos (by omega)] | rw [if_neg (by omega)]) <;> first | rfl | omega) | ((repeat' split) <;> first | rfl | (exfalso; omega) | omega)), rfl⟩)
        · show pl _ _ _ (198, [(0, .int (nI o))], [], M) _
          have m_40 := sw_nat (t := o) (by omega) et_40
          simp at m_40
          refine ps_st (S' := (199, [(0, .int (nI o))], [.int 3], M)) rfl rfl rfl ?_
          exact ps_ret rfl rfl (⟨congrArg (fun x => some (Value.int (nI x))) (show 3 = szO o from by
              unfold szO
              first | ((repeat first | rw [if_pos (by omega)] | rw [if_neg (by omega)]) <;> first | rfl | omega) | ((repeat' split) <;> first | rfl | (exfalso; omega) | omega)), rfl⟩)
        · show pl _ _ _ (200, [(0, .int (nI o))], [], M) _
          have m_40 := sw_nat (t := o) (by omega) et_40
          simp at m_40
          refine ps_st (S' := (201, [(0, .int (nI o))], [.int 4], M)) rfl rfl rfl ?_
          exact ps_ret rfl rfl (⟨congrArg (fun x => some (Value.int (nI x))) (show 4 = szO o from by
              unfold szO
              first | ((repeat first | rw [if_pos (by omega)] | rw [if_neg (by omega)]) <;> first | rfl | omega) | ((repeat' split) <;> first | rfl | (exfalso; omega) | omega)), rfl⟩)
        · show pl _ _ _ (202, [(0, .int (nI o))], [], M) _
          have m_40 := sw_nat (t := o) (by omega) et_40
          simp at m_40
          refine ps_st (S' := (203, [(0, .int (nI o))], [.int 5], M)) rfl rfl rfl ?_
          exact ps_ret rfl rfl (⟨congrArg (fun x => some (Value.int (nI x))) (show 5 = szO o from by
              unfold szO
              first | ((repeat first | rw [if_pos (by omega)] | rw [if_neg (by omega)]) <;> first | rfl | omega) | ((repeat' split) <;> first | rfl | (exfalso; omega) | omega)), rfl⟩)
        · show pl _ _ _ (204, [(0, .int (nI o))], [], M) _
          have m_40 := sw_nat (t := o) (by omega) et_40
          simp at m_40
          refine ps_st (S' := (205, [(0, .int (nI o))], [.int 1], M)) rfl rfl rfl ?_
          exact ps_ret rfl rfl (⟨congrArg (fun x => some (Value.int (nI x))) (show 1 = szO o from by
              unfold szO
              first | ((repeat first | rw [if_pos (by omega)] | rw [if_neg (by omega)]) <;> first | rfl | omega) | ((repeat' split) <;> first | rfl | (exfalso; omega) | omega)), rfl⟩)
      · have c_34 : ¬ ((nI (lcO o)) = 0) := of_decide_eq_false c_34
        have n_34 : ¬ (lcO o = 0) := fun h9 => c_34 ((eq_nI (p := lcO o) (n := 0) (by omega) (by decide)).mpr h9)
        refine ps_st (S' := (38, [(0, .int (nI o))], [.int 2], M)) rfl rfl rfl ?_
        exact ps_ret rfl rfl (⟨congrArg (fun x => some (Value.int (nI x))) (show 2 = szO o from by
            unfold szO
            first | ((repeat first | rw [if_pos (by omega)] | rw [if_neg (by omega)]) <;> first | rfl | omega) | ((repeat' split) <;> first | rfl | (exfalso; omega) | omega)), rfl⟩)
    · have c_18 : ¬ ((nI o) < 178) := of_decide_eq_false c_18
      have n_18 : ¬ (o < 178) := fun h9 => c_18 ((lt_nI (p := o) (n := 178) (by omega) (by decide)).mpr h9)
      refine ps_st (S' := (22, [(0, .int (nI o))], [.int (nI o)], M)) rfl rfl rfl ?_
      refine ps_st (S' := (25, [(0, .int (nI o))], [.int 184, .int (nI o)], M)) rfl rfl rfl ?_
      refine ps_if2 (S1 := (30, [(0, .int (nI o))], [], M)) (S2 := (28, [], [], M)) rfl rfl rfl (fun c_25 => ?_) (fun c_25 => ?_)
      · have c_25 : 184 < (nI o) := of_decide_eq_true c_25
        have n_25 : 184 < o := (lt_nI (p := 184) (n := o) (by decide) (by omega)).mp c_25
        refine ps_st (S' := (31, [(0, .int (nI o))], [.int (nI o)], M)) rfl rfl rfl ?_
        refine pl_call (a := [.int (nI o)]) (rest := []) rfl rfl rfl (dk_isLocalOpcode (o := o) (ho)) (fun v4 M5 q6 => ?_)
        obtain ⟨rfl, rfl⟩ := q6
        show pl _ _ _ (34, [(0, .int (nI o))], [.int (nI (lcO o))], M) _
        have hlc := lcO_le o
        refine ps_if (S1 := (39, [(0, .int (nI o))], [], M)) (S2 := (37, [(0, .int (nI o))], [], M)) rfl rfl rfl (fun c_34 => ?_) (fun c_34 => ?_)
        · have c_34 : (nI (lcO o)) = 0 := of_decide_eq_true c_34
          have n_34 : lcO o = 0 := (eq_nI (p := lcO o) (n := 0) (by omega) (by decide)).mp c_34
          refine ps_st (S' := (40, [(0, .int (nI o))], [.int (nI o)], M)) rfl rfl rfl ?_
          refine pl_sw rfl (fun t_40 et_40 => ?_)
          have ht_40 : t_40 ∈ [196, 198, 200, 202, 204] := mi_sw_sub et_40 (by decide)
          simp only [List.mem_cons, List.not_mem_nil, or_false] at ht_40
          rcases ht_40 with rfl | rfl | rfl | rfl | rfl
          · show pl _ _ _ (196, [(0, .int (nI o))], [], M) _
            have m_40 := sw_nat (t := o) (by omega) et_40
            simp at m_40
            refine ps_st (S' := (197, [(0, .int (nI o))], [.int 2], M)) rfl rfl rfl ?_
            exact ps_ret rfl rfl (⟨congrArg (fun x => some (Value.int (nI x))) (show 2 = szO o from by
                unfold szO
                first | ((repeat first | rw [if_pos (by omega)] | rw [if_neg (by omega)]) <;> first | rfl | omega) | ((repeat' split) <;> first | rfl | (exfalso; omega) | omega)), rfl⟩)
          · show pl _ _ _ (198, [(0, .int (nI o))], [], M) _
            have m_40 := sw_nat (t := o) (by omega) et_40
            simp at m_40
            refine ps_st (S' := (199, [(0, .int (nI o))], [.int 3], M)) rfl rfl rfl ?_
            exact ps_ret rfl rfl (⟨congrArg (fun x => some (Value.int (nI x))) (show 3 = szO o from by
                unfold szO
                first | ((repeat first | rw [if_pos (by omega)] | rw [if_neg (by omega)]) <;> first | rfl | omega) | ((repeat' split) <;> first | rfl | (exfalso; omega) | omega)), rfl⟩)
          · show pl _ _ _ (200, [(0, .int (nI o))], [], M) _
            have m_40 := sw_nat (t := o) (by omega) et_40
            simp at m_40
            refine ps_st (S' := (201, [(0, .int (nI o))], [.int 4], M)) rfl rfl rfl ?_
            exact ps_ret rfl rfl (⟨congrArg (fun x => some (Value.int (nI x))) (show 4 = szO o from by
                unfold szO
                first | ((repeat first | rw [if_pos (by omega)] | rw [if_neg (by omega)]) <;> first | rfl | omega) | ((repeat' split) <;> first | rfl | (exfalso; omega) | omega)), rfl⟩)
          · show pl _ _ _ (202, [(0, .int (nI o))], [], M) _
            have m_40 := sw_nat (t := o) (by omega) et_40
            simp at m_40
            refine ps_st (S' := (203, [(0, .int (nI o))], [.int 5], M)) rfl rfl rfl ?_
            exact ps_ret rfl rfl (⟨congrArg (fun x => some (Value.int (nI x))) (show 5 = szO o from by
                unfold szO
                first | ((repeat first | rw [if_pos (by omega)] | rw [if_neg (by omega)]) <;> first | rfl | omega) | ((repeat' split) <;> first | rfl | (exfalso; omega) | omega)), rfl⟩)
          · show pl _ _ _ (204, [(0, .int (nI o))], [], M) _
            have m_40 := sw_nat (t := o) (by omega) et_40
            simp at m_40
            refine ps_st (S' := (205, [(0, .int (nI o))], [.int 1], M)) rfl rfl rfl ?_
            exact ps_ret rfl rfl (⟨congrArg (fun x => some (Value.int (nI x))) (show 1 = szO o from by
                unfold szO
                first | ((repeat first | rw [if_pos (by omega)] | rw [if_neg (by omega)]) <;> first | rfl | omega) | ((repeat' split) <;> first | rfl | (exfalso; omega) | omega)), rfl⟩)
        · have c_34 : ¬ ((nI (lcO o)) = 0) := of_decide_eq_false c_34
          have n_34 : ¬ (lcO o = 0) := fun h9 => c_34 ((eq_nI (p := lcO o) (n := 0) (by omega) (by decide)).mpr h9)
          refine ps_st (S' := (38, [(0, .int (nI o))], [.int 2], M)) rfl rfl rfl ?_
          exact ps_ret rfl rfl (⟨congrArg (fun x => some (Value.int (nI x))) (show 2 = szO o from by
              unfold szO
              first | ((repeat first | rw [if_pos (by omega)] | rw [if_neg (by omega)]) <;> first | rfl | omega) | ((repeat' split) <;> first | rfl | (exfalso; omega) | omega)), rfl⟩)
      · have c_25 : ¬ (184 < (nI o)) := of_decide_eq_false c_25
        have n_25 : ¬ (184 < o) := fun h9 => c_25 ((lt_nI (p := 184) (n := o) (by decide) (by omega)).mpr h9)
        refine ps_st (S' := (29, [], [.int 3], M)) rfl rfl rfl ?_
        exact ps_ret rfl rfl (⟨congrArg (fun x => some (Value.int (nI x))) (show 3 = szO o from by
            unfold szO
            first | ((repeat first | rw [if_pos (by omega)] | rw [if_neg (by omega)]) <;> first | rfl | omega) | ((repeat' split) <;> first | rfl | (exfalso; omega) | omega)), rfl⟩)
  · have c_4 : ¬ ((nI o) < 153) := of_decide_eq_false c_4
    have n_4 : ¬ (o < 153) := fun h9 => c_4 ((lt_nI (p := o) (n := 153) (by omega) (by decide)).mpr h9)
    refine ps_st (S' := (8, [(0, .int (nI o))], [.int (nI o)], M)) rfl rfl rfl ?_
    refine ps_st (S' := (11, [(0, .int (nI o))], [.int 168, .int (nI o)], M)) rfl rfl rfl ?_
    refine ps_if2 (S1 := (28, [], [], M)) (S2 := (14, [(0, .int (nI o))], [], M)) rfl rfl rfl (fun c_11 => ?_) (fun c_11 => ?_)
    · have c_11 : (nI o) ≤ 168 := of_decide_eq_true c_11
      have n_11 : o ≤ 168 := (le_nI (p := o) (n := 168) (by omega) (by decide)).mp c_11
      refine ps_st (S' := (29, [], [.int 3], M)) rfl rfl rfl ?_
      exact ps_ret rfl rfl (⟨congrArg (fun x => some (Value.int (nI x))) (show 3 = szO o from by
          unfold szO
          first | ((repeat first | rw [if_pos (by omega)] | rw [if_neg (by omega)]) <;> first | rfl | omega) | ((repeat' split) <;> first | rfl | (exfalso; omega) | omega)), rfl⟩)
    · have c_11 : ¬ ((nI o) ≤ 168) := of_decide_eq_false c_11
      have n_11 : ¬ (o ≤ 168) := fun h9 => c_11 ((le_nI (p := o) (n := 168) (by omega) (by decide)).mpr h9)
      refine ps_st (S' := (15, [(0, .int (nI o))], [.int (nI o)], M)) rfl rfl rfl ?_
      refine ps_st (S' := (18, [(0, .int (nI o))], [.int 178, .int (nI o)], M)) rfl rfl rfl ?_
      refine ps_if2 (S1 := (30, [(0, .int (nI o))], [], M)) (S2 := (21, [(0, .int (nI o))], [], M)) rfl rfl rfl (fun c_18 => ?_) (fun c_18 => ?_)
      · have c_18 : (nI o) < 178 := of_decide_eq_true c_18
        have n_18 : o < 178 := (lt_nI (p := o) (n := 178) (by omega) (by decide)).mp c_18
        refine ps_st (S' := (31, [(0, .int (nI o))], [.int (nI o)], M)) rfl rfl rfl ?_
        refine pl_call (a := [.int (nI o)]) (rest := []) rfl rfl rfl (dk_isLocalOpcode (o := o) (ho)) (fun v7 M8 q9 => ?_)
        obtain ⟨rfl, rfl⟩ := q9
        show pl _ _ _ (34, [(0, .int (nI o))], [.int (nI (lcO o))], M) _
        have hlc := lcO_le o
        refine ps_if (S1 := (39, [(0, .int (nI o))], [], M)) (S2 := (37, [(0, .int (nI o))], [], M)) rfl rfl rfl (fun c_34 => ?_) (fun c_34 => ?_)
        · have c_34 : (nI (lcO o)) = 0 := of_decide_eq_true c_34
          have n_34 : lcO o = 0 := (eq_nI (p := lcO o) (n := 0) (by omega) (by decide)).mp c_34
          refine ps_st (S' := (40, [(0, .int (nI o))], [.int (nI o)], M)) rfl rfl rfl ?_
          refine pl_sw rfl (fun t_40 et_40 => ?_)
          have ht_40 : t_40 ∈ [196, 198, 200, 202, 204] := mi_sw_sub et_40 (by decide)
          simp only [List.mem_cons, List.not_mem_nil, or_false] at ht_40
          rcases ht_40 with rfl | rfl | rfl | rfl | rfl
          · show pl _ _ _ (196, [(0, .int (nI o))], [], M) _
            have m_40 := sw_nat (t := o) (by omega) et_40
            simp at m_40
            refine ps_st (S' := (197, [(0, .int (nI o))], [.int 2], M)) rfl rfl rfl ?_
            exact ps_ret rfl rfl (⟨congrArg (fun x => some (Value.int (nI x))) (show 2 = szO o from by
                unfold szO
                first | ((repeat first | rw [if_pos (by omega)] | rw [if_neg (by omega)]) <;> first | rfl | omega) | ((repeat' split) <;> first | rfl | (exfalso; omega) | omega)), rfl⟩)
          · show pl _ _ _ (198, [(0, .int (nI o))], [], M) _
            have m_40 := sw_nat (t := o) (by omega) et_40
            simp at m_40
            refine ps_st (S' := (199, [(0, .int (nI o))], [.int 3], M)) rfl rfl rfl ?_
            exact ps_ret rfl rfl (⟨congrArg (fun x => some (Value.int (nI x))) (show 3 = szO o from by
                unfold szO
                first | ((repeat first | rw [if_pos (by omega)] | rw [if_neg (by omega)]) <;> first | rfl | omega) | ((repeat' split) <;> first | rfl | (exfalso; omega) | omega)), rfl⟩)
          · show pl _ _ _ (200, [(0, .int (nI o))], [], M) _
            have m_40 := sw_nat (t := o) (by omega) et_40
            simp at m_40
            refine ps_st (S' := (201, [(0, .int (nI o))], [.int 4], M)) rfl rfl rfl ?_
            exact ps_ret rfl rfl (⟨congrArg (fun x => some (Value.int (nI x))) (show 4 = szO o from by
                unfold szO
                first | ((repeat first | rw [if_pos (by omega)] | rw [if_neg (by omega)]) <;> first | rfl | omega) | ((repeat' split) <;> first | rfl | (exfalso; omega) | omega)), rfl⟩)
          · show pl _ _ _ (202, [(0, .int (nI o))], [], M) _
            have m_40 := sw_nat (t := o) (by omega) et_40
            simp at m_40
            refine ps_st (S' := (203, [(0, .int (nI o))], [.int 5], M)) rfl rfl rfl ?_
            exact ps_ret rfl rfl (⟨congrArg (fun x => some (Value.int (nI x))) (show 5 = szO o from by
                unfold szO
                first | ((repeat first | rw [if_pos (by omega)] | rw [if_neg (by omega)]) <;> first | rfl | omega) | ((repeat' split) <;> first | rfl | (exfalso; omega) | omega)), rfl⟩)
          · show pl _ _ _ (204, [(0, .int (nI o))], [], M) _
            have m_40 := sw_nat (t := o) (by omega) et_40
            simp at m_40
            refine ps_st (S' := (205, [(0, .int (nI o))], [.int 1], M)) rfl rfl rfl ?_
            exact ps_ret rfl rfl (⟨congrArg (fun x => some (Value.int (nI x))) (show 1 = szO o from by
                unfold szO
                first | ((repeat first | rw [if_pos (by omega)] | rw [if_neg (by omega)]) <;> first | rfl | omega) | ((repeat' split) <;> first | rfl | (exfalso; omega) | omega)), rfl⟩)
        · have c_34 : ¬ ((nI (lcO o)) = 0) := of_decide_eq_false c_34
          have n_34 : ¬ (lcO o = 0) := fun h9 => c_34 ((eq_nI (p := lcO o) (n := 0) (by omega) (by decide)).mpr h9)
          refine ps_st (S' := (38, [(0, .int (nI o))], [.int 2], M)) rfl rfl rfl ?_
          exact ps_ret rfl rfl (⟨congrArg (fun x => some (Value.int (nI x))) (show 2 = szO o from by
              unfold szO
              first | ((repeat first | rw [if_pos (by omega)] | rw [if_neg (by omega)]) <;> first | rfl | omega) | ((repeat' split) <;> first | rfl | (exfalso; omega) | omega)), rfl⟩)
      · have c_18 : ¬ ((nI o) < 178) := of_decide_eq_false c_18
        have n_18 : ¬ (o < 178) := fun h9 => c_18 ((lt_nI (p := o) (n := 178) (by omega) (by decide)).mpr h9)
        refine ps_st (S' := (22, [(0, .int (nI o))], [.int (nI o)], M)) rfl rfl rfl ?_
        refine ps_st (S' := (25, [(0, .int (nI o))], [.int 184, .int (nI o)], M)) rfl rfl rfl ?_
        refine ps_if2 (S1 := (30, [(0, .int (nI o))], [], M)) (S2 := (28, [], [], M)) rfl rfl rfl (fun c_25 => ?_) (fun c_25 => ?_)
        · have c_25 : 184 < (nI o) := of_decide_eq_true c_25
          have n_25 : 184 < o := (lt_nI (p := 184) (n := o) (by decide) (by omega)).mp c_25
          refine ps_st (S' := (31, [(0, .int (nI o))], [.int (nI o)], M)) rfl rfl rfl ?_
          refine pl_call (a := [.int (nI o)]) (rest := []) rfl rfl rfl (dk_isLocalOpcode (o := o) (ho)) (fun v10 M11 q12 => ?_)
          obtain ⟨rfl, rfl⟩ := q12
          show pl _ _ _ (34, [(0, .int (nI o))], [.int (nI (lcO o))], M) _
          have hlc := lcO_le o
          refine ps_if (S1 := (39, [(0, .int (nI o))], [], M)) (S2 := (37, [(0, .int (nI o))], [], M)) rfl rfl rfl (fun c_34 => ?_) (fun c_34 => ?_)
          · have c_34 : (nI (lcO o)) = 0 := of_decide_eq_true c_34
            have n_34 : lcO o = 0 := (eq_nI (p := lcO o) (n := 0) (by omega) (by decide)).mp c_34
            refine ps_st (S' := (40, [(0, .int (nI o))], [.int (nI o)], M)) rfl rfl rfl ?_
            refine pl_sw rfl (fun t_40 et_40 => ?_)
            have ht_40 : t_40 ∈ [196, 198, 200, 202, 204] := mi_sw_sub et_40 (by decide)
            simp only [List.mem_cons, List.not_mem_nil, or_false] at ht_40
            rcases ht_40 with rfl | rfl | rfl | rfl | rfl
            · show pl _ _ _ (196, [(0, .int (nI o))], [], M) _
              have m_40 := sw_nat (t := o) (by omega) et_40
              simp at m_40
              refine ps_st (S' := (197, [(0, .int (nI o))], [.int 2], M)) rfl rfl rfl ?_
              exact ps_ret rfl rfl (⟨congrArg (fun x => some (Value.int (nI x))) (show 2 = szO o from by
                  unfold szO
                  first | ((repeat first | rw [if_pos (by omega)] | rw [if_neg (by omega)]) <;> first | rfl | omega) | ((repeat' split) <;> first | rfl | (exfalso; omega) | omega)), rfl⟩)
            · show pl _ _ _ (198, [(0, .int (nI o))], [], M) _
              have m_40 := sw_nat (t := o) (by omega) et_40
              simp at m_40
              refine ps_st (S' := (199, [(0, .int (nI o))], [.int 3], M)) rfl rfl rfl ?_
              exact ps_ret rfl rfl (⟨congrArg (fun x => some (Value.int (nI x))) (show 3 = szO o from by
                  unfold szO
                  first | ((repeat first | rw [if_pos (by omega)] | rw [if_neg (by omega)]) <;> first | rfl | omega) | ((repeat' split) <;> first | rfl | (exfalso; omega) | omega)), rfl⟩)
            · show pl _ _ _ (200, [(0, .int (nI o))], [], M) _
              have m_40 := sw_nat (t := o) (by omega) et_40
              simp at m_40
              refine ps_st (S' := (201, [(0, .int (nI o))], [.int 4], M)) rfl rfl rfl ?_
              exact ps_ret rfl rfl (⟨congrArg (fun x => some (Value.int (nI x))) (show 4 = szO o from by
                  unfold szO
                  first | ((repeat first | rw [if_pos (by omega)] | rw [if_neg (by omega)]) <;> first | rfl | omega) | ((repeat' split) <;> first | rfl | (exfalso; omega) | omega)), rfl⟩)
            · show pl _ _ _ (202, [(0, .int (nI o))], [], M) _
              have m_40 := sw_nat (t := o) (by omega) et_40
              simp at m_40
              refine ps_st (S' := (203, [(0, .int (nI o))], [.int 5], M)) rfl rfl rfl ?_
              exact ps_ret rfl rfl (⟨congrArg (fun x => some (Value.int (nI x))) (show 5 = szO o from by
                  unfold szO
                  first | ((repeat first | rw [if_pos (by omega)] | rw [if_neg (by omega)]) <;> first | rfl | omega) | ((repeat' split) <;> first | rfl | (exfalso; omega) | omega)), rfl⟩)
            · show pl _ _ _ (204, [(0, .int (nI o))], [], M) _
              have m_40 := sw_nat (t := o) (by omega) et_40
              simp at m_40
              refine ps_st (S' := (205, [(0, .int (nI o))], [.int 1], M)) rfl rfl rfl ?_
              exact ps_ret rfl rfl (⟨congrArg (fun x => some (Value.int (nI x))) (show 1 = szO o from by
                  unfold szO
                  first | ((repeat first | rw [if_pos (by omega)] | rw [if_neg (by omega)]) <;> first | rfl | omega) | ((repeat' split) <;> first | rfl | (exfalso; omega) | omega)), rfl⟩)
          · have c_34 : ¬ ((nI (lcO o)) = 0) := of_decide_eq_false c_34
            have n_34 : ¬ (lcO o = 0) := fun h9 => c_34 ((eq_nI (p := lcO o) (n := 0) (by omega) (by decide)).mpr h9)
            refine ps_st (S' := (38, [(0, .int (nI o))], [.int 2], M)) rfl rfl rfl ?_
            exact ps_ret rfl rfl (⟨congrArg (fun x => some (Value.int (nI x))) (show 2 = szO o from by
                unfold szO
                first | ((repeat first | rw [if_pos (by omega)] | rw [if_neg (by omega)]) <;> first | rfl | omega) | ((repeat' split) <;> first | rfl | (exfalso; omega) | omega)), rfl⟩)
        · have c_25 : ¬ (184 < (nI o)) := of_decide_eq_false c_25
          have n_25 : ¬ (184 < o) := fun h9 => c_25 ((lt_nI (p := 184) (n := o) (by decide) (by omega)).mpr h9)
          refine ps_st (S' := (29, [], [.int 3], M)) rfl rfl rfl ?_
          exact ps_ret rfl rfl (⟨congrArg (fun x => some (Value.int (nI x))) (show 3 = szO o from by
              unfold szO
              first | ((repeat first | rw [if_pos (by omega)] | rw [if_neg (by omega)]) <;> first | rfl | omega) | ((repeat' split) <;> first | rfl | (exfalso; omega) | omega)), rfl⟩)
set_option maxHeartbeats 1000000 in
theorem dk_isSwitch {g : xe_G} {M : mi_H} {on b cb L : Nat} {y4 y5 y6 y7 y8 y9 y10 y11 : Int32} {o : Nat} (h_on : M.1 on = some (ob 5 [.ref b, .int (nI cb), .int (nI L), .int (nI o), .int y4, .int y5, .int y6, .int y7, .int y8, .int y9, .int y10, .int y11])) (ho : o < 65536) : pt (mT g) 95 [.ref on] M (fun v M' => (v = some (.int (nI (swN o))) ∧ M = M')) := by
  refine pt_in (b := mb_95 g) rfl (fun kf => ?_)
  show pl (mT g) kf (mb_95 g).2 (0, [(0, .ref on)], [], M) _
  refine ps_st (S' := (1, [(0, .ref on)], [.ref on], M)) rfl rfl rfl ?_
  refine ps_get (S' := (4, [(0, .ref on)], [.int (nI o)], M)) rfl h_on rfl rfl ?_
  refine ps_st (S' := (7, [(0, .ref on)], [.int 170, .int (nI o)], M)) rfl rfl rfl ?_
  refine ps_if2 (S1 := (20, [], [], M)) (S2 := (10, [(0, .ref on)], [], M)) rfl rfl rfl (fun c_7 => ?_) (fun c_7 => ?_)
  · have c_7 : (nI o) = 170 := of_decide_eq_true c_7
    have n_7 : o = 170 := (eq_nI (p := o) (n := 170) (by omega) (by decide)).mp c_7
    refine ps_st (S' := (21, [], [.int 1], M)) rfl rfl rfl ?_
    refine ps_st (S' := (25, [], [.int 1], M)) rfl rfl rfl ?_
    exact ps_ret rfl rfl (⟨congrArg (fun x => some (Value.int (nI x))) (show 1 = swN o from by
        unfold swN
        first | ((repeat first | rw [if_pos (by omega)] | rw [if_neg (by omega)]) <;> first | rfl | omega) | ((repeat' split) <;> first | rfl | (exfalso; omega) | omega)), rfl⟩)
  · have c_7 : ¬ ((nI o) = 170) := of_decide_eq_false c_7
    have n_7 : ¬ (o = 170) := fun h9 => c_7 ((eq_nI (p := o) (n := 170) (by omega) (by decide)).mpr h9)
    refine ps_st (S' := (11, [(0, .ref on)], [.ref on], M)) rfl rfl rfl ?_
    refine ps_get (S' := (14, [(0, .ref on)], [.int (nI o)], M)) rfl h_on rfl rfl ?_
    refine ps_st (S' := (17, [(0, .ref on)], [.int 171, .int (nI o)], M)) rfl rfl rfl ?_
    refine ps_if2 (S1 := (24, [(0, .ref on)], [], M)) (S2 := (20, [], [], M)) rfl rfl rfl (fun c_17 => ?_) (fun c_17 => ?_)
    · have c_17 : ¬ (nI o) = 171 := of_decide_eq_true c_17
      have n_17 : ¬ (o = 171) := fun h9 => c_17 ((eq_nI (p := o) (n := 171) (by omega) (by decide)).mpr h9)
      refine ps_st (S' := (25, [], [.int 0], M)) rfl rfl rfl ?_
      exact ps_ret rfl rfl (⟨congrArg (fun x => some (Value.int (nI x))) (show 0 = swN o from by
          unfold swN
          first | ((repeat first | rw [if_pos (by omega)] | rw [if_neg (by omega)]) <;> first | rfl | omega) | ((repeat' split) <;> first | rfl | (exfalso; omega) | omega)), rfl⟩)
    · have c_17 : ¬ (¬ (nI o) = 171) := of_decide_eq_false c_17
      have n_17 : o = 171 := (eq_nI (p := o) (n := 171) (by omega) (by decide)).mp (Decidable.not_not.mp c_17)
      refine ps_st (S' := (21, [], [.int 1], M)) rfl rfl rfl ?_
      refine ps_st (S' := (25, [], [.int 1], M)) rfl rfl rfl ?_
      exact ps_ret rfl rfl (⟨congrArg (fun x => some (Value.int (nI x))) (show 1 = swN o from by
          unfold swN
          first | ((repeat first | rw [if_pos (by omega)] | rw [if_neg (by omega)]) <;> first | rfl | omega) | ((repeat' split) <;> first | rfl | (exfalso; omega) | omega)), rfl⟩)
set_option maxHeartbeats 1000000 in
theorem dk_isLocalTaken {g : xe_G} {M : mi_H} {on b cb L : Nat} {y4 y5 y6 y7 y8 y9 y10 y11 : Int32} {o : Nat} {vv : Int32} (h_on : M.1 on = some (ob 5 [.ref b, .int (nI cb), .int (nI L), .int (nI o), .int y4, .int y5, .int y6, .int y7, .int y8, .int y9, .int y10, .int y11])) (ho : o < 65536) : pt (mT g) 92 [.ref on, .int vv] M (fun v M' => (v = some (.int 1) ∧ M'.1 on = some (ob 5 [.ref b, .int (nI cb), .int (nI L), .int (nI o), .int y4, .int vv, .int y6, .int (nI (lpO o)), .int y8, .int y9, .int y10, .int y11]) ∧ fm [on] M M')) := by
  refine pt_in (b := mb_92 g) rfl (fun kf => ?_)
  show pl (mT g) kf (mb_92 g).2 (0, [(0, .ref on), (1, .int vv)], [], M) _
  have hF : fm [on] M M := fm.rf
  refine ps_st (S' := (1, [(0, .ref on), (1, .int vv)], [.ref on], M)) rfl rfl rfl ?_
  refine ps_get (S' := (4, [(0, .ref on), (1, .int vv)], [.int (nI o)], M)) rfl h_on rfl rfl ?_
  refine ps_st (S' := (6, [(0, .ref on), (1, .int vv)], [.int 22, .int (nI o)], M)) rfl rfl rfl ?_
  refine ps_if2 (S1 := (36, [(0, .ref on), (1, .int vv)], [], M)) (S2 := (9, [(0, .ref on), (1, .int vv)], [], M)) rfl rfl rfl (fun c_6 => ?_) (fun c_6 => ?_)
  · have c_6 : (nI o) = 22 := of_decide_eq_true c_6
    have n_6 : o = 22 := (eq_nI (p := o) (n := 22) (by omega) (by decide)).mp c_6
    refine ps_st (S' := (37, [(0, .ref on), (1, .int vv)], [.int 1], M)) rfl rfl rfl ?_
    refine ps_st (S' := (41, [(0, .ref on), (1, .int vv)], [.int 1], M)) rfl rfl rfl ?_
    refine ps_st (S' := (42, [(2, .int 1), (0, .ref on), (1, .int vv)], [], M)) rfl rfl rfl ?_
    refine ps_st (S' := (43, [(2, .int 1), (0, .ref on), (1, .int vv)], [.ref on], M)) rfl rfl rfl ?_
    refine ps_st (S' := (44, [(2, .int 1), (0, .ref on), (1, .int vv)], [.int 1, .ref on], M)) rfl rfl rfl ?_
    refine ps_if (S1 := (51, [(2, .int 1), (0, .ref on), (1, .int vv)], [.ref on], M)) (S2 := (47, [(2, .int 1), (0, .ref on), (1, .int vv)], [.ref on], M)) rfl rfl rfl (fun c_44 => ?_) (fun c_44 => ?_)
    · exact absurd (of_decide_eq_true c_44) (by decide)
    refine ps_st (S' := (48, [(2, .int 1), (0, .ref on), (1, .int vv)], [.int 2, .ref on], M)) rfl rfl rfl ?_
    refine ps_st (S' := (52, [(0, .ref on), (1, .int vv)], [.int 2, .ref on], M)) rfl rfl rfl ?_
    refine ps_put (l' := [.ref b, .int (nI cb), .int (nI L), .int (nI o), .int y4, .int y5, .int y6, .int 2, .int y8, .int y9, .int y10, .int y11]) rfl h_on rfl rfl (fun M1 h2 f3 z4 => ?_)
    have hF5 := hF.up (by simp) f3 z4
    show pl _ _ _ (55, [(0, .ref on), (1, .int vv)], [], M1) _
    refine ps_st (S' := (56, [(0, .ref on), (1, .int vv)], [.ref on], M1)) rfl rfl rfl ?_
    refine ps_st (S' := (57, [(0, .ref on), (1, .int vv)], [.int vv, .ref on], M1)) rfl rfl rfl ?_
    refine ps_put (l' := [.ref b, .int (nI cb), .int (nI L), .int (nI o), .int y4, .int vv, .int y6, .int 2, .int y8, .int y9, .int y10, .int y11]) rfl h2 rfl rfl (fun M6 h7 f8 z9 => ?_)
    have hF10 := hF5.up (by simp) f8 z9
    show pl _ _ _ (60, [(0, .ref on), (1, .int vv)], [], M6) _
    refine ps_st (S' := (61, [(0, .ref on), (1, .int vv)], [.int 1], M6)) rfl rfl rfl ?_
    exact ps_ret rfl rfl (⟨rfl, by rw [show lpO o = 2 by unfold lpO; rw [if_pos (by omega)]]; exact h7, hF10⟩)
  · have c_6 : ¬ ((nI o) = 22) := of_decide_eq_false c_6
    have n_6 : ¬ (o = 22) := fun h9 => c_6 ((eq_nI (p := o) (n := 22) (by omega) (by decide)).mpr h9)
    refine ps_st (S' := (10, [(0, .ref on), (1, .int vv)], [.ref on], M)) rfl rfl rfl ?_
    refine ps_get (S' := (13, [(0, .ref on), (1, .int vv)], [.int (nI o)], M)) rfl h_on rfl rfl ?_
    refine ps_st (S' := (15, [(0, .ref on), (1, .int vv)], [.int 24, .int (nI o)], M)) rfl rfl rfl ?_
    refine ps_if2 (S1 := (36, [(0, .ref on), (1, .int vv)], [], M)) (S2 := (18, [(0, .ref on), (1, .int vv)], [], M)) rfl rfl rfl (fun c_15 => ?_) (fun c_15 => ?_)
    · have c_15 : (nI o) = 24 := of_decide_eq_true c_15
      have n_15 : o = 24 := (eq_nI (p := o) (n := 24) (by omega) (by decide)).mp c_15
      refine ps_st (S' := (37, [(0, .ref on), (1, .int vv)], [.int 1], M)) rfl rfl rfl ?_
      refine ps_st (S' := (41, [(0, .ref on), (1, .int vv)], [.int 1], M)) rfl rfl rfl ?_
      refine ps_st (S' := (42, [(2, .int 1), (0, .ref on), (1, .int vv)], [], M)) rfl rfl rfl ?_
      refine ps_st (S' := (43, [(2, .int 1), (0, .ref on), (1, .int vv)], [.ref on], M)) rfl rfl rfl ?_
      refine ps_st (S' := (44, [(2, .int 1), (0, .ref on), (1, .int vv)], [.int 1, .ref on], M)) rfl rfl rfl ?_
      refine ps_if (S1 := (51, [(2, .int 1), (0, .ref on), (1, .int vv)], [.ref on], M)) (S2 := (47, [(2, .int 1), (0, .ref on), (1, .int vv)], [.ref on], M)) rfl rfl rfl (fun c_44 => ?_) (fun c_44 => ?_)
      · exact absurd (of_decide_eq_true c_44) (by decide)
      refine ps_st (S' := (48, [(2, .int 1), (0, .ref on), (1, .int vv)], [.int 2, .ref on], M)) rfl rfl rfl ?_
      refine ps_st (S' := (52, [(0, .ref on), (1, .int vv)], [.int 2, .ref on], M)) rfl rfl rfl ?_
      refine ps_put (l' := [.ref b, .int (nI cb), .int (nI L), .int (nI o), .int y4, .int y5, .int y6, .int 2, .int y8, .int y9, .int y10, .int y11]) rfl h_on rfl rfl (fun M11 h12 f13 z14 => ?_)
      have hF15 := hF.up (by simp) f13 z14
      show pl _ _ _ (55, [(0, .ref on), (1, .int vv)], [], M11) _
      refine ps_st (S' := (56, [(0, .ref on), (1, .int vv)], [.ref on], M11)) rfl rfl rfl ?_
      refine ps_st (S' := (57, [(0, .ref on), (1, .int vv)], [.int vv, .ref on], M11)) rfl rfl rfl ?_
      refine ps_put (l' := [.ref b, .int (nI cb), .int (nI L), .int (nI o), .int y4, .int vv, .int y6, .int 2, .int y8, .int y9, .int y10, .int y11]) rfl h12 rfl rfl (fun M16 h17 f18 z19 => ?_)
      have hF20 := hF15.up (by simp) f18 z19
      show pl _ _ _ (60, [(0, .ref on), (1, .int vv)], [], M16) _
      refine ps_st (S' := (61, [(0, .ref on), (1, .int vv)], [.int 1], M16)) rfl rfl rfl ?_
      exact ps_ret rfl rfl (⟨rfl, by rw [show lpO o = 2 by unfold lpO; rw [if_pos (by omega)]]; exact h17, hF20⟩)
    · have c_15 : ¬ ((nI o) = 24) := of_decide_eq_false c_15
      have n_15 : ¬ (o = 24) := fun h9 => c_15 ((eq_nI (p := o) (n := 24) (by omega) (by decide)).mpr h9)
      refine ps_st (S' := (19, [(0, .ref on), (1, .int vv)], [.ref on], M)) rfl rfl rfl ?_
      refine ps_get (S' := (22, [(0, .ref on), (1, .int vv)], [.int (nI o)], M)) rfl h_on rfl rfl ?_
      refine ps_st (S' := (24, [(0, .ref on), (1, .int vv)], [.int 55, .int (nI o)], M)) rfl rfl rfl ?_
      refine ps_if2 (S1 := (36, [(0, .ref on), (1, .int vv)], [], M)) (S2 := (27, [(0, .ref on), (1, .int vv)], [], M)) rfl rfl rfl (fun c_24 => ?_) (fun c_24 => ?_)
      · have c_24 : (nI o) = 55 := of_decide_eq_true c_24
        have n_24 : o = 55 := (eq_nI (p := o) (n := 55) (by omega) (by decide)).mp c_24
        refine ps_st (S' := (37, [(0, .ref on), (1, .int vv)], [.int 1], M)) rfl rfl rfl ?_
        refine ps_st (S' := (41, [(0, .ref on), (1, .int vv)], [.int 1], M)) rfl rfl rfl ?_
        refine ps_st (S' := (42, [(2, .int 1), (0, .ref on), (1, .int vv)], [], M)) rfl rfl rfl ?_
        refine ps_st (S' := (43, [(2, .int 1), (0, .ref on), (1, .int vv)], [.ref on], M)) rfl rfl rfl ?_
        refine ps_st (S' := (44, [(2, .int 1), (0, .ref on), (1, .int vv)], [.int 1, .ref on], M)) rfl rfl rfl ?_
        refine ps_if (S1 := (51, [(2, .int 1), (0, .ref on), (1, .int vv)], [.ref on], M)) (S2 := (47, [(2, .int 1), (0, .ref on), (1, .int vv)], [.ref on], M)) rfl rfl rfl (fun c_44 => ?_) (fun c_44 => ?_)
        · exact absurd (of_decide_eq_true c_44) (by decide)
        refine ps_st (S' := (48, [(2, .int 1), (0, .ref on), (1, .int vv)], [.int 2, .ref on], M)) rfl rfl rfl ?_
        refine ps_st (S' := (52, [(0, .ref on), (1, .int vv)], [.int 2, .ref on], M)) rfl rfl rfl ?_
        refine ps_put (l' := [.ref b, .int (nI cb), .int (nI L), .int (nI o), .int y4, .int y5, .int y6, .int 2, .int y8, .int y9, .int y10, .int y11]) rfl h_on rfl rfl (fun M21 h22 f23 z24 => ?_)
        have hF25 := hF.up (by simp) f23 z24
        show pl _ _ _ (55, [(0, .ref on), (1, .int vv)], [], M21) _
        refine ps_st (S' := (56, [(0, .ref on), (1, .int vv)], [.ref on], M21)) rfl rfl rfl ?_
        refine ps_st (S' := (57, [(0, .ref on), (1, .int vv)], [.int vv, .ref on], M21)) rfl rfl rfl ?_
        refine ps_put (l' := [.ref b, .int (nI cb), .int (nI L), .int (nI o), .int y4, .int vv, .int y6, .int 2, .int y8, .int y9, .int y10, .int y11]) rfl h22 rfl rfl (fun M26 h27 f28 z29 => ?_)
        have hF30 := hF25.up (by simp) f28 z29
        show pl _ _ _ (60, [(0, .ref on), (1, .int vv)], [], M26) _
        refine ps_st (S' := (61, [(0, .ref on), (1, .int vv)], [.int 1], M26)) rfl rfl rfl ?_
        exact ps_ret rfl rfl (⟨rfl, by rw [show lpO o = 2 by unfold lpO; rw [if_pos (by omega)]]; exact h27, hF30⟩)
      · have c_24 : ¬ ((nI o) = 55) := of_decide_eq_false c_24
        have n_24 : ¬ (o = 55) := fun h9 => c_24 ((eq_nI (p := o) (n := 55) (by omega) (by decide)).mpr h9)
        refine ps_st (S' := (28, [(0, .ref on), (1, .int vv)], [.ref on], M)) rfl rfl rfl ?_
        refine ps_get (S' := (31, [(0, .ref on), (1, .int vv)], [.int (nI o)], M)) rfl h_on rfl rfl ?_
        refine ps_st (S' := (33, [(0, .ref on), (1, .int vv)], [.int 57, .int (nI o)], M)) rfl rfl rfl ?_
        refine ps_if2 (S1 := (40, [(0, .ref on), (1, .int vv)], [], M)) (S2 := (36, [(0, .ref on), (1, .int vv)], [], M)) rfl rfl rfl (fun c_33 => ?_) (fun c_33 => ?_)
        · have c_33 : ¬ (nI o) = 57 := of_decide_eq_true c_33
          have n_33 : ¬ (o = 57) := fun h9 => c_33 ((eq_nI (p := o) (n := 57) (by omega) (by decide)).mpr h9)
          refine ps_st (S' := (41, [(0, .ref on), (1, .int vv)], [.int 0], M)) rfl rfl rfl ?_
          refine ps_st (S' := (42, [(2, .int 0), (0, .ref on), (1, .int vv)], [], M)) rfl rfl rfl ?_
          refine ps_st (S' := (43, [(2, .int 0), (0, .ref on), (1, .int vv)], [.ref on], M)) rfl rfl rfl ?_
          refine ps_st (S' := (44, [(2, .int 0), (0, .ref on), (1, .int vv)], [.int 0, .ref on], M)) rfl rfl rfl ?_
          refine ps_if (S1 := (51, [(2, .int 0), (0, .ref on), (1, .int vv)], [.ref on], M)) (S2 := (47, [(2, .int 0), (0, .ref on), (1, .int vv)], [.ref on], M)) rfl rfl rfl (fun c_44 => ?_) (fun c_44 => ?_)
          rotate_left
          · exact absurd (by decide) (of_decide_eq_false c_44)
          refine ps_st (S' := (52, [(0, .ref on), (1, .int vv)], [.int 1, .ref on], M)) rfl rfl rfl ?_
          refine ps_put (l' := [.ref b, .int (nI cb), .int (nI L), .int (nI o), .int y4, .int y5, .int y6, .int 1, .int y8, .int y9, .int y10, .int y11]) rfl h_on rfl rfl (fun M31 h32 f33 z34 => ?_)
          have hF35 := hF.up (by simp) f33 z34
          show pl _ _ _ (55, [(0, .ref on), (1, .int vv)], [], M31) _
          refine ps_st (S' := (56, [(0, .ref on), (1, .int vv)], [.ref on], M31)) rfl rfl rfl ?_
          refine ps_st (S' := (57, [(0, .ref on), (1, .int vv)], [.int vv, .ref on], M31)) rfl rfl rfl ?_
          refine ps_put (l' := [.ref b, .int (nI cb), .int (nI L), .int (nI o), .int y4, .int vv, .int y6, .int 1, .int y8, .int y9, .int y10, .int y11]) rfl h32 rfl rfl (fun M36 h37 f38 z39 => ?_)
          have hF40 := hF35.up (by simp) f38 z39
          show pl _ _ _ (60, [(0, .ref on), (1, .int vv)], [], M36) _
          refine ps_st (S' := (61, [(0, .ref on), (1, .int vv)], [.int 1], M36)) rfl rfl rfl ?_
          exact ps_ret rfl rfl (⟨rfl, by rw [show lpO o = 1 by unfold lpO; rw [if_neg (by omega)]]; exact h37, hF40⟩)
        · have c_33 : ¬ (¬ (nI o) = 57) := of_decide_eq_false c_33
          have n_33 : o = 57 := (eq_nI (p := o) (n := 57) (by omega) (by decide)).mp (Decidable.not_not.mp c_33)
          refine ps_st (S' := (37, [(0, .ref on), (1, .int vv)], [.int 1], M)) rfl rfl rfl ?_
          refine ps_st (S' := (41, [(0, .ref on), (1, .int vv)], [.int 1], M)) rfl rfl rfl ?_
          refine ps_st (S' := (42, [(2, .int 1), (0, .ref on), (1, .int vv)], [], M)) rfl rfl rfl ?_
          refine ps_st (S' := (43, [(2, .int 1), (0, .ref on), (1, .int vv)], [.ref on], M)) rfl rfl rfl ?_
          refine ps_st (S' := (44, [(2, .int 1), (0, .ref on), (1, .int vv)], [.int 1, .ref on], M)) rfl rfl rfl ?_
          refine ps_if (S1 := (51, [(2, .int 1), (0, .ref on), (1, .int vv)], [.ref on], M)) (S2 := (47, [(2, .int 1), (0, .ref on), (1, .int vv)], [.ref on], M)) rfl rfl rfl (fun c_44 => ?_) (fun c_44 => ?_)
          · exact absurd (of_decide_eq_true c_44) (by decide)
          refine ps_st (S' := (48, [(2, .int 1), (0, .ref on), (1, .int vv)], [.int 2, .ref on], M)) rfl rfl rfl ?_
          refine ps_st (S' := (52, [(0, .ref on), (1, .int vv)], [.int 2, .ref on], M)) rfl rfl rfl ?_
          refine ps_put (l' := [.ref b, .int (nI cb), .int (nI L), .int (nI o), .int y4, .int y5, .int y6, .int 2, .int y8, .int y9, .int y10, .int y11]) rfl h_on rfl rfl (fun M41 h42 f43 z44 => ?_)
          have hF45 := hF.up (by simp) f43 z44
          show pl _ _ _ (55, [(0, .ref on), (1, .int vv)], [], M41) _
          refine ps_st (S' := (56, [(0, .ref on), (1, .int vv)], [.ref on], M41)) rfl rfl rfl ?_
          refine ps_st (S' := (57, [(0, .ref on), (1, .int vv)], [.int vv, .ref on], M41)) rfl rfl rfl ?_
          refine ps_put (l' := [.ref b, .int (nI cb), .int (nI L), .int (nI o), .int y4, .int vv, .int y6, .int 2, .int y8, .int y9, .int y10, .int y11]) rfl h42 rfl rfl (fun M46 h47 f48 z49 => ?_)
          have hF50 := hF45.up (by simp) f48 z49
          show pl _ _ _ (60, [(0, .ref on), (1, .int vv)], [], M46) _
          refine ps_st (S' := (61, [(0, .ref on), (1, .int vv)], [.int 1], M46)) rfl rfl rfl ?_
          exact ps_ret rfl rfl (⟨rfl, by rw [show lpO o = 2 by unfold lpO; rw [if_pos (by omega)]]; exact h47, hF50⟩)
set_option maxHeartbeats 1000000 in
theorem dk_isShortLocalTaken {g : xe_G} {M : mi_H} {on b cb L : Nat} {y3 y4 y5 y6 y7 y8 y9 y10 y11 : Int32} {t lf : Nat} (h_on : M.1 on = some (ob 5 [.ref b, .int (nI cb), .int (nI L), .int y3, .int y4, .int y5, .int y6, .int y7, .int y8, .int y9, .int y10, .int y11])) (ht : t < 256) (hlf : lf < 256) : pt (mT g) 94 [.ref on, .int (nI t), .int (nI lf)] M (fun v M' => (v = some (.int 1) ∧ M'.1 on = some (ob 5 [.ref b, .int (nI cb), .int (nI L), .int (nI (lf + t / 4)), .int y4, .int (nI (t % 4)), .int y6, .int (nI (lpO (lf + t / 4))), .int y8, .int y9, .int y10, .int y11]) ∧ fm [on] M M')) := by
  refine pt_in (b := mb_94 g) rfl (fun kf => ?_)
  show pl (mT g) kf (mb_94 g).2 (0, [(0, .ref on), (1, .int (nI t)), (2, .int (nI lf))], [], M) _
  have hF : fm [on] M M := fm.rf
  refine ps_st (S' := (1, [(0, .ref on), (1, .int (nI t)), (2, .int (nI lf))], [.ref on], M)) rfl rfl rfl ?_
  refine ps_st (S' := (2, [(0, .ref on), (1, .int (nI t)), (2, .int (nI lf))], [.int (nI lf), .ref on], M)) rfl rfl rfl ?_
  refine ps_st (S' := (3, [(0, .ref on), (1, .int (nI t)), (2, .int (nI lf))], [.int (nI t), .int (nI lf), .ref on], M)) rfl rfl rfl ?_
  refine ps_st (S' := (4, [(0, .ref on), (1, .int (nI t)), (2, .int (nI lf))], [.int 4, .int (nI t), .int (nI lf), .ref on], M)) rfl rfl rfl ?_
  refine ps_st (S' := (5, [(0, .ref on), (1, .int (nI t)), (2, .int (nI lf))], [.int ((nI t) / 4), .int (nI lf), .ref on], M)) rfl rfl rfl ?_
  rw [ndiv_nI (k := 4) rfl (by decide) (by omega)]
  show pl _ _ _ (_, [(0, .ref on), (1, .int (nI t)), (2, .int (nI lf))], [.int (nI (t / 4)), .int (nI lf), .ref on], M) _
  refine ps_st (S' := (6, [(0, .ref on), (1, .int (nI t)), (2, .int (nI lf))], [.int ((nI lf) + (nI (t / 4))), .ref on], M)) rfl rfl rfl ?_
  rw [nI_add1 (p := lf) (k := t / 4) (x := (nI (t / 4))) rfl (by omega)]
  show pl _ _ _ (_, [(0, .ref on), (1, .int (nI t)), (2, .int (nI lf))], [.int (nI (lf + t / 4)), .ref on], M) _
  refine ps_put (l' := [.ref b, .int (nI cb), .int (nI L), .int (nI (lf + t / 4)), .int y4, .int y5, .int y6, .int y7, .int y8, .int y9, .int y10, .int y11]) rfl h_on rfl rfl (fun M1 h2 f3 z4 => ?_)
  have hF5 := hF.up (by simp) f3 z4
  show pl _ _ _ (9, [(0, .ref on), (1, .int (nI t)), (2, .int (nI lf))], [], M1) _
  refine ps_st (S' := (10, [(0, .ref on), (1, .int (nI t)), (2, .int (nI lf))], [.ref on], M1)) rfl rfl rfl ?_
  refine ps_st (S' := (11, [(0, .ref on), (1, .int (nI t)), (2, .int (nI lf))], [.int (nI t), .ref on], M1)) rfl rfl rfl ?_
  refine ps_st (S' := (12, [(0, .ref on), (1, .int (nI t)), (2, .int (nI lf))], [.int 4, .int (nI t), .ref on], M1)) rfl rfl rfl ?_
  refine ps_st (S' := (13, [(0, .ref on), (1, .int (nI t)), (2, .int (nI lf))], [.int ((nI t) - (nI t) / 4 * 4), .ref on], M1)) rfl rfl rfl ?_
  rw [nI_rem (a := t) (k := 4) (x := 4) rfl rfl (by decide) (by omega)]
  show pl _ _ _ (_, [(0, .ref on), (1, .int (nI t)), (2, .int (nI lf))], [.int (nI (t % 4)), .ref on], M1) _
  refine pl_call (a := [.ref on, .int (nI (t % 4))]) (rest := []) rfl rfl rfl (dk_isLocalTaken (on := on) (b := b) (cb := cb) (L := L) (y4 := y4) (y5 := y5) (y6 := y6) (y7 := y7) (y8 := y8) (y9 := y9) (y10 := y10) (y11 := y11) (o := (lf + t / 4)) (vv := (nI (t % 4))) h2 (by omega)) (fun v6 M7 q8 => ?_)
  obtain ⟨rfl, h9, f10⟩ := q8
  have hF12 := hF5.tr f10 (by simp)
  show pl _ _ _ (16, [(0, .ref on), (1, .int (nI t)), (2, .int (nI lf))], [.int 1], M7) _
  exact ps_ret rfl rfl (⟨rfl, h9, hF12⟩)
set_option maxHeartbeats 1000000 in
theorem dk_isJumpTaken {g : xe_G} {M : mi_H} {on b cb L : Nat} {y3 y4 y5 y6 y7 y8 y9 y10 y11 : Int32} {vv oo : Int32} (h_on : M.1 on = some (ob 5 [.ref b, .int (nI cb), .int (nI L), .int y3, .int y4, .int y5, .int y6, .int y7, .int y8, .int y9, .int y10, .int y11]))  : pt (mT g) 90 [.ref on, .int vv, .int oo] M (fun v M' => (v = some (.int 1) ∧ M'.1 on = some (ob 5 [.ref b, .int (nI cb), .int (nI L), .int oo, .int y4, .int y5, .int y6, .int y7, .int 1, .int y9, .int vv, .int y11]) ∧ fm [on] M M')) := by
  refine pt_in (b := mb_90 g) rfl (fun kf => ?_)
  show pl (mT g) kf (mb_90 g).2 (0, [(0, .ref on), (1, .int vv), (2, .int oo)], [], M) _
  have hF : fm [on] M M := fm.rf
  refine ps_st (S' := (1, [(0, .ref on), (1, .int vv), (2, .int oo)], [.ref on], M)) rfl rfl rfl ?_
  refine ps_st (S' := (2, [(0, .ref on), (1, .int vv), (2, .int oo)], [.int oo, .ref on], M)) rfl rfl rfl ?_
  refine ps_put (l' := [.ref b, .int (nI cb), .int (nI L), .int oo, .int y4, .int y5, .int y6, .int y7, .int y8, .int y9, .int y10, .int y11]) rfl h_on rfl rfl (fun M1 h2 f3 z4 => ?_)
  have hF5 := hF.up (by simp) f3 z4
  show pl _ _ _ (5, [(0, .ref on), (1, .int vv), (2, .int oo)], [], M1) _
  refine ps_st (S' := (6, [(0, .ref on), (1, .int vv), (2, .int oo)], [.ref on], M1)) rfl rfl rfl ?_
  refine ps_st (S' := (7, [(0, .ref on), (1, .int vv), (2, .int oo)], [.int vv, .ref on], M1)) rfl rfl rfl ?_
  refine ps_put (l' := [.ref b, .int (nI cb), .int (nI L), .int oo, .int y4, .int y5, .int y6, .int y7, .int y8, .int y9, .int vv, .int y11]) rfl h2 rfl rfl (fun M6 h7 f8 z9 => ?_)
  have hF10 := hF5.up (by simp) f8 z9
  show pl _ _ _ (10, [(0, .ref on), (1, .int vv), (2, .int oo)], [], M6) _
  refine ps_st (S' := (11, [(0, .ref on), (1, .int vv), (2, .int oo)], [.ref on], M6)) rfl rfl rfl ?_
  refine ps_st (S' := (12, [(0, .ref on), (1, .int vv), (2, .int oo)], [.int 1, .ref on], M6)) rfl rfl rfl ?_
  refine ps_put (l' := [.ref b, .int (nI cb), .int (nI L), .int oo, .int y4, .int y5, .int y6, .int y7, .int 1, .int y9, .int vv, .int y11]) rfl h7 rfl rfl (fun M11 h12 f13 z14 => ?_)
  have hF15 := hF10.up (by simp) f13 z14
  show pl _ _ _ (15, [(0, .ref on), (1, .int vv), (2, .int oo)], [], M11) _
  refine ps_st (S' := (16, [(0, .ref on), (1, .int vv), (2, .int oo)], [.int 1], M11)) rfl rfl rfl ?_
  exact ps_ret rfl rfl (⟨rfl, h12, hF15⟩)
set_option maxHeartbeats 1000000 in
theorem dk_isIndexTaken {g : xe_G} {M : mi_H} {f : Nat → Int32} {n on b da cb L : Nat} {y7 y8 y10 y11 : Int32} {pc o : Nat} (h_on : M.1 on = some (ob 5 [.ref b, .int (nI cb), .int (nI L), .int (nI o), .int (nI (szO o)), .int 0, .int 0, .int y7, .int y8, .int (nI pc), .int y10, .int y11])) (h_b : M.1 b = some (ob 1 [.ref da])) (h_da : M.1 da = some (ar .byte n f)) (hn : n ≤ 65540) (ho : o < 256) (hcl : cb + L + 4 ≤ n) (hpl : pc < L) (hsz : pc + szO o ≤ L) : pt (mT g) 88 [.ref on] M (fun v M' => (∃ (x : Int32 × Int32), (ixS f cb pc o = some x) ∧ v = some (.int 1) ∧ M'.1 on = some (ob 5 [.ref b, .int (nI cb), .int (nI L), .int (nI o), .int (nI (szO o)), .int x.1, .int x.2, .int y7, .int y8, .int (nI pc), .int y10, .int y11]) ∧ fm [on] M M') ∨ (∃ (z5 z6 : Int32), (ixS f cb pc o = none) ∧ v = some (.int 0) ∧ M'.1 on = some (ob 5 [.ref b, .int (nI cb), .int (nI L), .int (nI o), .int (nI (szO o)), .int z5, .int z6, .int y7, .int y8, .int (nI pc), .int y10, .int y11]) ∧ fm [on] M M')) := by
  refine pt_in (b := mb_88 g) rfl (fun kf => ?_)
  show pl (mT g) kf (mb_88 g).2 (0, [(0, .ref on)], [], M) _
  have hF : fm [on] M M := fm.rf
  have hz8 := szO_le o
  refine ps_st (S' := (1, [(0, .ref on)], [.ref on], M)) rfl rfl rfl ?_
  refine ps_get (S' := (4, [(0, .ref on)], [.int (nI (szO o))], M)) rfl h_on rfl rfl ?_
  refine ps_st (S' := (5, [(0, .ref on)], [.int 3, .int (nI (szO o))], M)) rfl rfl rfl ?_
  refine ps_if2 (S1 := (10, [(0, .ref on)], [], M)) (S2 := (8, [(0, .ref on)], [], M)) rfl rfl rfl (fun c_5 => ?_) (fun c_5 => ?_)
  · have c_5 : 3 ≤ (nI (szO o)) := of_decide_eq_true c_5
    have n_5 : 3 ≤ szO o := (le_nI (p := 3) (n := szO o) (by decide) (by omega)).mp c_5
    refine ps_st (S' := (11, [(0, .ref on)], [.ref on], M)) rfl rfl rfl ?_
    refine ps_st (S' := (12, [(0, .ref on)], [.ref on, .ref on], M)) rfl rfl rfl ?_
    refine ps_st (S' := (13, [(0, .ref on)], [.ref on, .ref on, .ref on], M)) rfl rfl rfl ?_
    refine ps_get (S' := (16, [(0, .ref on)], [.int (nI pc), .ref on, .ref on], M)) rfl h_on rfl rfl ?_
    refine ps_st (S' := (17, [(0, .ref on)], [.int 1, .int (nI pc), .ref on, .ref on], M)) rfl rfl rfl ?_
    refine ps_st (S' := (18, [(0, .ref on)], [.int ((nI pc) + 1), .ref on, .ref on], M)) rfl rfl rfl ?_
    rw [nI_add1 (p := pc) (k := 1) (x := 1) rfl (by omega)]
    show pl _ _ _ (_, [(0, .ref on)], [.int (nI (pc + 1)), .ref on, .ref on], M) _
    refine pl_call (a := [.ref on, .int (nI (pc + 1))]) (rest := [.ref on]) rfl rfl rfl (dk_iu2 (f := f) (n := n) (on := on) (b := b) (da := da) (cb := cb) (L := L) (y3 := (nI o)) (y4 := (nI (szO o))) (y5 := 0) (y6 := 0) (y7 := y7) (y8 := y8) (y9 := (nI pc)) (y10 := y10) (y11 := y11) (a := (pc + 1)) h_on h_b h_da (hn) (by omega)) (fun v1 M2 q3 => ?_)
    obtain ⟨rfl, rfl⟩ := q3
    show pl _ _ _ (21, [(0, .ref on)], [.int (nI (by2 f (cb + (pc + 1)))), .ref on], M) _
    have hb_18 := by2_lt f (cb + (pc + 1))
    refine ps_put (l' := [.ref b, .int (nI cb), .int (nI L), .int (nI o), .int (nI (szO o)), .int (nI (by2 f (cb + (pc + 1)))), .int 0, .int y7, .int y8, .int (nI pc), .int y10, .int y11]) rfl h_on rfl rfl (fun M4 h5 f6 z7 => ?_)
    have h8 := (f6 b (ob_ne h_b h_on (by decide))).trans h_b
    have h9 := (f6 da (Ne.symm (ob_ar h_on h_da))).trans h_da
    have hF10 := hF.up (by simp) f6 z7
    show pl _ _ _ (24, [(0, .ref on)], [], M4) _
    refine ps_st (S' := (25, [(0, .ref on)], [.ref on], M4)) rfl rfl rfl ?_
    refine ps_get (S' := (28, [(0, .ref on)], [.int (nI o)], M4)) rfl h5 rfl rfl ?_
    refine pl_sw rfl (fun t_28 et_28 => ?_)
    have ht_28 : t_28 ∈ [64, 80, 113, 132] := mi_sw_sub et_28 (by decide)
    simp only [List.mem_cons, List.not_mem_nil, or_false] at ht_28
    rcases ht_28 with rfl | rfl | rfl | rfl
    · show pl _ _ _ (64, [(0, .ref on)], [], M4) _
      have m_28 := sw_nat (t := o) (by omega) et_28
      simp at m_28
      have hz9 : szO o = 4 := by rw [show o = 197 by omega]; rfl
      refine ps_st (S' := (65, [(0, .ref on)], [.ref on], M4)) rfl rfl rfl ?_
      refine ps_st (S' := (66, [(0, .ref on)], [.ref on, .ref on], M4)) rfl rfl rfl ?_
      refine ps_st (S' := (67, [(0, .ref on)], [.ref on, .ref on, .ref on], M4)) rfl rfl rfl ?_
      refine ps_get (S' := (70, [(0, .ref on)], [.int (nI pc), .ref on, .ref on], M4)) rfl h5 rfl rfl ?_
      refine ps_st (S' := (71, [(0, .ref on)], [.int 3, .int (nI pc), .ref on, .ref on], M4)) rfl rfl rfl ?_
      refine ps_st (S' := (72, [(0, .ref on)], [.int ((nI pc) + 3), .ref on, .ref on], M4)) rfl rfl rfl ?_
      rw [nI_add1 (p := pc) (k := 3) (x := 3) rfl (by omega)]
      show pl _ _ _ (_, [(0, .ref on)], [.int (nI (pc + 3)), .ref on, .ref on], M4) _
      refine pl_call (a := [.ref on, .int (nI (pc + 3))]) (rest := [.ref on]) rfl rfl rfl (dk_iu1 (f := f) (n := n) (on := on) (b := b) (da := da) (cb := cb) (L := L) (y3 := (nI o)) (y4 := (nI (szO o))) (y5 := (nI (by2 f (cb + (pc + 1))))) (y6 := 0) (y7 := y7) (y8 := y8) (y9 := (nI pc)) (y10 := y10) (y11 := y11) (a := (pc + 3)) h5 h8 h9 (hn) (by omega)) (fun v11 M12 q13 => ?_)
      obtain ⟨rfl, rfl⟩ := q13
      show pl _ _ _ (75, [(0, .ref on)], [.int (nI (by1 f (cb + (pc + 3)))), .ref on], M4) _
      have hb_72 := by1_lt f (cb + (pc + 3))
      refine ps_put (l' := [.ref b, .int (nI cb), .int (nI L), .int (nI o), .int (nI (szO o)), .int (nI (by2 f (cb + (pc + 1)))), .int (nI (by1 f (cb + (pc + 3)))), .int y7, .int y8, .int (nI pc), .int y10, .int y11]) rfl h5 rfl rfl (fun M14 h15 f16 z17 => ?_)
      have h18 := (f16 b (ob_ne h8 h5 (by decide))).trans h8
      have h19 := (f16 da (Ne.symm (ob_ar h5 h9))).trans h9
      have hF20 := hF10.up (by simp) f16 z17
      show pl _ _ _ (78, [(0, .ref on)], [], M14) _
      refine ps_st (S' := (79, [(0, .ref on)], [.int 1], M14)) rfl rfl rfl ?_
      exact ps_ret rfl rfl (Or.inl ⟨((nI (by2 f (cb + (pc + 1)))), (nI (by1 f (cb + (pc + 3))))), by
          unfold ixS
          first | ((repeat first | rw [if_pos (by omega)] | rw [if_neg (by omega)]) <;> first | rfl | omega) | ((repeat' split) <;> first | rfl | (exfalso; omega) | omega), rfl, h15, hF20⟩)
    · show pl _ _ _ (80, [(0, .ref on)], [], M4) _
      have m_28 := sw_nat (t := o) (by omega) et_28
      simp at m_28
      have hz9 : szO o = 5 := by rw [show o = 185 by omega]; rfl
      refine ps_st (S' := (81, [(0, .ref on)], [.ref on], M4)) rfl rfl rfl ?_
      refine ps_st (S' := (82, [(0, .ref on)], [.ref on, .ref on], M4)) rfl rfl rfl ?_
      refine ps_st (S' := (83, [(0, .ref on)], [.ref on, .ref on, .ref on], M4)) rfl rfl rfl ?_
      refine ps_get (S' := (86, [(0, .ref on)], [.int (nI pc), .ref on, .ref on], M4)) rfl h5 rfl rfl ?_
      refine ps_st (S' := (87, [(0, .ref on)], [.int 3, .int (nI pc), .ref on, .ref on], M4)) rfl rfl rfl ?_
      refine ps_st (S' := (88, [(0, .ref on)], [.int ((nI pc) + 3), .ref on, .ref on], M4)) rfl rfl rfl ?_
      rw [nI_add1 (p := pc) (k := 3) (x := 3) rfl (by omega)]
      show pl _ _ _ (_, [(0, .ref on)], [.int (nI (pc + 3)), .ref on, .ref on], M4) _
      refine pl_call (a := [.ref on, .int (nI (pc + 3))]) (rest := [.ref on]) rfl rfl rfl (dk_iu1 (f := f) (n := n) (on := on) (b := b) (da := da) (cb := cb) (L := L) (y3 := (nI o)) (y4 := (nI (szO o))) (y5 := (nI (by2 f (cb + (pc + 1))))) (y6 := 0) (y7 := y7) (y8 := y8) (y9 := (nI pc)) (y10 := y10) (y11 := y11) (a := (pc + 3)) h5 h8 h9 (hn) (by omega)) (fun v21 M22 q23 => ?_)
      obtain ⟨rfl, rfl⟩ := q23
      show pl _ _ _ (91, [(0, .ref on)], [.int (nI (by1 f (cb + (pc + 3)))), .ref on], M4) _
      have hb_88 := by1_lt f (cb + (pc + 3))
      refine ps_put (l' := [.ref b, .int (nI cb), .int (nI L), .int (nI o), .int (nI (szO o)), .int (nI (by2 f (cb + (pc + 1)))), .int (nI (by1 f (cb + (pc + 3)))), .int y7, .int y8, .int (nI pc), .int y10, .int y11]) rfl h5 rfl rfl (fun M24 h25 f26 z27 => ?_)
      have h28 := (f26 b (ob_ne h8 h5 (by decide))).trans h8
      have h29 := (f26 da (Ne.symm (ob_ar h5 h9))).trans h9
      have hF30 := hF10.up (by simp) f26 z27
      show pl _ _ _ (94, [(0, .ref on)], [], M24) _
      refine ps_st (S' := (95, [(0, .ref on)], [.ref on], M24)) rfl rfl rfl ?_
      refine ps_st (S' := (96, [(0, .ref on)], [.ref on, .ref on], M24)) rfl rfl rfl ?_
      refine ps_get (S' := (99, [(0, .ref on)], [.int (nI pc), .ref on], M24)) rfl h25 rfl rfl ?_
      refine ps_st (S' := (100, [(0, .ref on)], [.int 4, .int (nI pc), .ref on], M24)) rfl rfl rfl ?_
      refine ps_st (S' := (101, [(0, .ref on)], [.int ((nI pc) + 4), .ref on], M24)) rfl rfl rfl ?_
      rw [nI_add1 (p := pc) (k := 4) (x := 4) rfl (by omega)]
      show pl _ _ _ (_, [(0, .ref on)], [.int (nI (pc + 4)), .ref on], M24) _
      refine pl_call (a := [.ref on, .int (nI (pc + 4))]) (rest := []) rfl rfl rfl (dk_iu1 (f := f) (n := n) (on := on) (b := b) (da := da) (cb := cb) (L := L) (y3 := (nI o)) (y4 := (nI (szO o))) (y5 := (nI (by2 f (cb + (pc + 1))))) (y6 := (nI (by1 f (cb + (pc + 3))))) (y7 := y7) (y8 := y8) (y9 := (nI pc)) (y10 := y10) (y11 := y11) (a := (pc + 4)) h25 h28 h29 (hn) (by omega)) (fun v31 M32 q33 => ?_)
      obtain ⟨rfl, rfl⟩ := q33
      show pl _ _ _ (104, [(0, .ref on)], [.int (nI (by1 f (cb + (pc + 4))))], M24) _
      have hb_101 := by1_lt f (cb + (pc + 4))
      refine ps_if (S1 := (111, [(0, .ref on)], [], M24)) (S2 := (107, [(0, .ref on)], [], M24)) rfl rfl rfl (fun c_104 => ?_) (fun c_104 => ?_)
      · have c_104 : ¬ (nI (by1 f (cb + (pc + 4)))) = 0 := of_decide_eq_true c_104
        have n_104 : ¬ (by1 f (cb + (pc + 4)) = 0) := fun h9 => c_104 ((eq_nI (p := by1 f (cb + (pc + 4))) (n := 0) (Nat.lt_trans (by1_lt _ _) (by decide)) (by decide)).mpr h9)
        refine ps_st (S' := (112, [], [.int 0], M24)) rfl rfl rfl ?_
        exact ps_ret rfl rfl (Or.inr ⟨_, _, by
            unfold ixS
            first | ((repeat first | rw [if_pos (by omega)] | rw [if_neg (by omega)]) <;> first | rfl | omega) | ((repeat' split) <;> first | rfl | (exfalso; omega) | omega), rfl, h25, hF30⟩)
      · have c_104 : ¬ (¬ (nI (by1 f (cb + (pc + 4)))) = 0) := of_decide_eq_false c_104
        have n_104 : by1 f (cb + (pc + 4)) = 0 := (eq_nI (p := by1 f (cb + (pc + 4))) (n := 0) (Nat.lt_trans (by1_lt _ _) (by decide)) (by decide)).mp (Decidable.not_not.mp c_104)
        refine ps_st (S' := (108, [(0, .ref on)], [.int 1], M24)) rfl rfl rfl ?_
        refine ps_st (S' := (112, [], [.int 1], M24)) rfl rfl rfl ?_
        exact ps_ret rfl rfl (Or.inl ⟨((nI (by2 f (cb + (pc + 1)))), (nI (by1 f (cb + (pc + 3))))), by
            unfold ixS
            first | ((repeat first | rw [if_pos (by omega)] | rw [if_neg (by omega)]) <;> first | rfl | omega) | ((repeat' split) <;> first | rfl | (exfalso; omega) | omega), rfl, h25, hF30⟩)
    · show pl _ _ _ (113, [(0, .ref on)], [], M4) _
      have m_28 := sw_nat (t := o) (by omega) et_28
      simp at m_28
      have hz9 : szO o = 5 := by rw [show o = 186 by omega]; rfl
      refine ps_st (S' := (114, [(0, .ref on)], [.ref on], M4)) rfl rfl rfl ?_
      refine ps_st (S' := (115, [(0, .ref on)], [.ref on, .ref on], M4)) rfl rfl rfl ?_
      refine ps_get (S' := (118, [(0, .ref on)], [.int (nI pc), .ref on], M4)) rfl h5 rfl rfl ?_
      refine ps_st (S' := (119, [(0, .ref on)], [.int 3, .int (nI pc), .ref on], M4)) rfl rfl rfl ?_
      refine ps_st (S' := (120, [(0, .ref on)], [.int ((nI pc) + 3), .ref on], M4)) rfl rfl rfl ?_
      rw [nI_add1 (p := pc) (k := 3) (x := 3) rfl (by omega)]
      show pl _ _ _ (_, [(0, .ref on)], [.int (nI (pc + 3)), .ref on], M4) _
      refine pl_call (a := [.ref on, .int (nI (pc + 3))]) (rest := []) rfl rfl rfl (dk_iu2 (f := f) (n := n) (on := on) (b := b) (da := da) (cb := cb) (L := L) (y3 := (nI o)) (y4 := (nI (szO o))) (y5 := (nI (by2 f (cb + (pc + 1))))) (y6 := 0) (y7 := y7) (y8 := y8) (y9 := (nI pc)) (y10 := y10) (y11 := y11) (a := (pc + 3)) h5 h8 h9 (hn) (by omega)) (fun v34 M35 q36 => ?_)
      obtain ⟨rfl, rfl⟩ := q36
      show pl _ _ _ (123, [(0, .ref on)], [.int (nI (by2 f (cb + (pc + 3))))], M4) _
      have hb_120 := by2_lt f (cb + (pc + 3))
      refine ps_if (S1 := (130, [(0, .ref on)], [], M4)) (S2 := (126, [(0, .ref on)], [], M4)) rfl rfl rfl (fun c_123 => ?_) (fun c_123 => ?_)
      · have c_123 : ¬ (nI (by2 f (cb + (pc + 3)))) = 0 := of_decide_eq_true c_123
        have n_123 : ¬ (by2 f (cb + (pc + 3)) = 0) := fun h9 => c_123 ((eq_nI (p := by2 f (cb + (pc + 3))) (n := 0) (Nat.lt_trans (by2_lt _ _) (by decide)) (by decide)).mpr h9)
        refine ps_st (S' := (131, [], [.int 0], M4)) rfl rfl rfl ?_
        exact ps_ret rfl rfl (Or.inr ⟨_, _, by
            unfold ixS
            first | ((repeat first | rw [if_pos (by omega)] | rw [if_neg (by omega)]) <;> first | rfl | omega) | ((repeat' split) <;> first | rfl | (exfalso; omega) | omega), rfl, h5, hF10⟩)
      · have c_123 : ¬ (¬ (nI (by2 f (cb + (pc + 3)))) = 0) := of_decide_eq_false c_123
        have n_123 : by2 f (cb + (pc + 3)) = 0 := (eq_nI (p := by2 f (cb + (pc + 3))) (n := 0) (Nat.lt_trans (by2_lt _ _) (by decide)) (by decide)).mp (Decidable.not_not.mp c_123)
        refine ps_st (S' := (127, [(0, .ref on)], [.int 1], M4)) rfl rfl rfl ?_
        refine ps_st (S' := (131, [], [.int 1], M4)) rfl rfl rfl ?_
        exact ps_ret rfl rfl (Or.inl ⟨((nI (by2 f (cb + (pc + 1)))), 0), by
            unfold ixS
            first | ((repeat first | rw [if_pos (by omega)] | rw [if_neg (by omega)]) <;> first | rfl | omega) | ((repeat' split) <;> first | rfl | (exfalso; omega) | omega), rfl, h5, hF10⟩)
    · show pl _ _ _ (132, [(0, .ref on)], [], M4) _
      have m_28 := sw_nat (t := o) (by omega) et_28
      simp at m_28
      refine ps_st (S' := (133, [(0, .ref on)], [.int 1], M4)) rfl rfl rfl ?_
      exact ps_ret rfl rfl (Or.inl ⟨((nI (by2 f (cb + (pc + 1)))), 0), by
          unfold ixS
          first | ((repeat first | rw [if_pos (by omega)] | rw [if_neg (by omega)]) <;> first | rfl | omega) | ((repeat' split) <;> first | rfl | (exfalso; omega) | omega), rfl, h5, hF10⟩)
  · have c_5 : ¬ (3 ≤ (nI (szO o))) := of_decide_eq_false c_5
    have n_5 : ¬ (3 ≤ szO o) := fun h9 => c_5 ((le_nI (p := 3) (n := szO o) (by decide) (by omega)).mpr h9)
    refine ps_st (S' := (9, [(0, .ref on)], [.int 1], M)) rfl rfl rfl ?_
    exact ps_ret rfl rfl (Or.inl ⟨(0, 0), by
        unfold ixS
        first | ((repeat first | rw [if_pos (by omega)] | rw [if_neg (by omega)]) <;> first | rfl | omega) | ((repeat' split) <;> first | rfl | (exfalso; omega) | omega), rfl, h_on, hF⟩)
set_option maxHeartbeats 1000000 in
theorem dk_areOperandsTaken {g : xe_G} {M : mi_H} {f : Nat → Int32} {n on b da cb L : Nat} {y10 y11 : Int32} {pc o : Nat} (h_on : M.1 on = some (ob 5 [.ref b, .int (nI cb), .int (nI L), .int (nI o), .int (nI (szO o)), .int 0, .int 0, .int 0, .int 0, .int (nI pc), .int y10, .int y11])) (h_b : M.1 b = some (ob 1 [.ref da])) (h_da : M.1 da = some (ar .byte n f)) (hn : n ≤ 65540) (ho : o < 256) (hcl : cb + L + 4 ≤ n) (hpl : pc < L) (hsz : pc + szO o ≤ L) : pt (mT g) 87 [.ref on] M (fun v M' => (∃ (x : Nat × Int32 × Int32 × Nat × Nat × Option Int32), (opC f cb pc o = some x) ∧ v = some (.int 1) ∧ M'.1 on = some (ob 5 [.ref b, .int (nI cb), .int (nI L), .int (nI x.1), .int (nI (szO o)), .int x.2.1, .int x.2.2.1, .int (nI x.2.2.2.1), .int (nI x.2.2.2.2.1), .int (nI pc), .int (x.2.2.2.2.2.getD y10), .int y11]) ∧ fm [on] M M') ∨ (∃ (z3 z5 z6 z7 z8 z10 : Int32), (opC f cb pc o = none) ∧ v = some (.int 0) ∧ M'.1 on = some (ob 5 [.ref b, .int (nI cb), .int (nI L), .int z3, .int (nI (szO o)), .int z5, .int z6, .int z7, .int z8, .int (nI pc), .int z10, .int y11]) ∧ fm [on] M M')) := by
  refine pt_in (b := mb_87 g) rfl (fun kf => ?_)
  show pl (mT g) kf (mb_87 g).2 (0, [(0, .ref on)], [], M) _
  have hF : fm [on] M M := fm.rf
  have hz8 := szO_le o
  have LL : ∀ (kf : Nat), (∀ (u9 : Nat) (M1 : mi_H), (M1.1 on = some (ob 5 [.ref b, .int (nI cb), .int (nI L), .int (nI o), .int (nI (szO o)), .int 0, .int 0, .int 0, .int 0, .int (nI pc), .int y10, .int y11])) → (M1.1 b = some (ob 1 [.ref da])) → (M1.1 da = some (ar .byte n f)) → (fm [on] M M1) → (¬ (26 ≤ o ∧ o ≤ 45) ∧ ¬ (59 ≤ o ∧ o ≤ 78)) →  pl (mT g) kf (mb_87 g).2 (64, [(0, .ref on)], [], M1) (fun v M' => (∃ (x : Nat × Int32 × Int32 × Nat × Nat × Option Int32), (opC f cb pc o = some x) ∧ v = some (.int 1) ∧ M'.1 on = some (ob 5 [.ref b, .int (nI cb), .int (nI L), .int (nI x.1), .int (nI (szO o)), .int x.2.1, .int x.2.2.1, .int (nI x.2.2.2.1), .int (nI x.2.2.2.2.1), .int (nI pc), .int (x.2.2.2.2.2.getD y10), .int y11]) ∧ fm [on] M M') ∨ (∃ (z3 z5 z6 z7 z8 z10 : Int32), (opC f cb pc o = none) ∧ v = some (.int 0) ∧ M'.1 on = some (ob 5 [.ref b, .int (nI cb), .int (nI L), .int z3, .int (nI (szO o)), .int z5, .int z6, .int z7, .int z8, .int (nI pc), .int z10, .int y11]) ∧ fm [on] M M'))) ∧ (∀ (u9 : Nat) (M1 : mi_H), (M1.1 on = some (ob 5 [.ref b, .int (nI cb), .int (nI L), .int (nI o), .int (nI (szO o)), .int 0, .int 0, .int 0, .int 0, .int (nI pc), .int y10, .int y11])) → (M1.1 b = some (ob 1 [.ref da])) → (M1.1 da = some (ar .byte n f)) → (fm [on] M M1) → (¬ (26 ≤ o ∧ o ≤ 45) ∧ ¬ (59 ≤ o ∧ o ≤ 78)) → (lcO o = 0) → (¬ ((153 ≤ o ∧ o ≤ 168) ∨ o = 198 ∨ o = 199)) →  pl (mT g) kf (mb_87 g).2 (149, [(0, .ref on)], [], M1) (fun v M' => (∃ (x : Nat × Int32 × Int32 × Nat × Nat × Option Int32), (opC f cb pc o = some x) ∧ v = some (.int 1) ∧ M'.1 on = some (ob 5 [.ref b, .int (nI cb), .int (nI L), .int (nI x.1), .int (nI (szO o)), .int x.2.1, .int x.2.2.1, .int (nI x.2.2.2.1), .int (nI x.2.2.2.2.1), .int (nI pc), .int (x.2.2.2.2.2.getD y10), .int y11]) ∧ fm [on] M M') ∨ (∃ (z3 z5 z6 z7 z8 z10 : Int32), (opC f cb pc o = none) ∧ v = some (.int 0) ∧ M'.1 on = some (ob 5 [.ref b, .int (nI cb), .int (nI L), .int z3, .int (nI (szO o)), .int z5, .int z6, .int z7, .int z8, .int (nI pc), .int z10, .int y11]) ∧ fm [on] M M'))) := by
    intro kf
    induction kf with
    | zero => exact ⟨by intros; exact pl_0, by intros; exact pl_0⟩
    | succ kf ih =>
      refine ⟨?_, ?_⟩
      · skip
        intro u9 M1 hl_on hl_b hl_da hF1 h64
        refine ps_st1 (S' := (65, [(0, .ref on)], [.ref on], M1)) rfl rfl rfl ?_
        refine ps_get (S' := (68, [(0, .ref on)], [.int (nI o)], M1)) rfl hl_on rfl rfl ?_
        refine pl_call (a := [.int (nI o)]) (rest := []) rfl rfl rfl (dk_isLocalOpcode (o := o) (by omega)) (fun v1 M2 q3 => ?_)
        obtain ⟨rfl, rfl⟩ := q3
        show pl _ _ _ (71, [(0, .ref on)], [.int (nI (lcO o))], M1) _
        have hlc := lcO_le o
        refine ps_if (S1 := (89, [(0, .ref on)], [], M1)) (S2 := (74, [(0, .ref on)], [], M1)) rfl rfl rfl (fun c_71 => ?_) (fun c_71 => ?_)
        · have c_71 : (nI (lcO o)) = 0 := of_decide_eq_true c_71
          have n_71 : lcO o = 0 := (eq_nI (p := lcO o) (n := 0) (by omega) (by decide)).mp c_71
          refine ps_st (S' := (90, [(0, .ref on)], [.ref on], M1)) rfl rfl rfl ?_
          refine ps_get (S' := (93, [(0, .ref on)], [.int (nI o)], M1)) rfl hl_on rfl rfl ?_
          refine ps_st (S' := (96, [(0, .ref on)], [.int 153, .int (nI o)], M1)) rfl rfl rfl ?_
          refine ps_if2 (S1 := (109, [(0, .ref on)], [], M1)) (S2 := (99, [(0, .ref on)], [], M1)) rfl rfl rfl (fun c_96 => ?_) (fun c_96 => ?_)
          · have c_96 : (nI o) < 153 := of_decide_eq_true c_96
            have n_96 : o < 153 := (lt_nI (p := o) (n := 153) (by omega) (by decide)).mp c_96
            refine ps_st (S' := (110, [(0, .ref on)], [.ref on], M1)) rfl rfl rfl ?_
            refine ps_get (S' := (113, [(0, .ref on)], [.int (nI o)], M1)) rfl hl_on rfl rfl ?_
            refine ps_st (S' := (116, [(0, .ref on)], [.int 198, .int (nI o)], M1)) rfl rfl rfl ?_
            refine ps_if2 (S1 := (129, [(0, .ref on)], [], M1)) (S2 := (119, [(0, .ref on)], [], M1)) rfl rfl rfl (fun c_116 => ?_) (fun c_116 => ?_)
            · exact absurd (of_decide_eq_true c_116) (show ¬ ((nI o) = 198) from fun h9 => absurd ((eq_nI (p := o) (n := 198) (by omega) (by decide)).mp h9) (by omega))
            refine ps_st (S' := (120, [(0, .ref on)], [.ref on], M1)) rfl rfl rfl ?_
            refine ps_get (S' := (123, [(0, .ref on)], [.int (nI o)], M1)) rfl hl_on rfl rfl ?_
            refine ps_st (S' := (126, [(0, .ref on)], [.int 199, .int (nI o)], M1)) rfl rfl rfl ?_
            refine ps_if2 (S1 := (149, [(0, .ref on)], [], M1)) (S2 := (129, [(0, .ref on)], [], M1)) rfl rfl rfl (fun c_126 => ?_) (fun c_126 => ?_)
            rotate_left
            · exact absurd (show ¬ ((nI o) = 199) from fun h9 => absurd ((eq_nI (p := o) (n := 199) (by omega) (by decide)).mp h9) (by omega)) (of_decide_eq_false c_126)
            exact ih.2 (0) M1 hl_on hl_b hl_da hF1 (by omega) (by omega) (by omega)
          · have c_96 : ¬ ((nI o) < 153) := of_decide_eq_false c_96
            have n_96 : ¬ (o < 153) := fun h9 => c_96 ((lt_nI (p := o) (n := 153) (by omega) (by decide)).mpr h9)
            refine ps_st (S' := (100, [(0, .ref on)], [.ref on], M1)) rfl rfl rfl ?_
            refine ps_get (S' := (103, [(0, .ref on)], [.int (nI o)], M1)) rfl hl_on rfl rfl ?_
            refine ps_st (S' := (106, [(0, .ref on)], [.int 168, .int (nI o)], M1)) rfl rfl rfl ?_
            refine ps_if2 (S1 := (129, [(0, .ref on)], [], M1)) (S2 := (109, [(0, .ref on)], [], M1)) rfl rfl rfl (fun c_106 => ?_) (fun c_106 => ?_)
            · have c_106 : (nI o) ≤ 168 := of_decide_eq_true c_106
              have n_106 : o ≤ 168 := (le_nI (p := o) (n := 168) (by omega) (by decide)).mp c_106
              have hz9 : szO o = 3 := by unfold szO; first | rw [if_pos (by omega)] | (rw [if_neg (by omega), if_neg (by omega), if_neg (by omega), if_pos (by omega)])
              refine ps_st (S' := (130, [(0, .ref on)], [.ref on], M1)) rfl rfl rfl ?_
              refine ps_st (S' := (131, [(0, .ref on)], [.ref on, .ref on], M1)) rfl rfl rfl ?_
              refine ps_st (S' := (132, [(0, .ref on)], [.ref on, .ref on, .ref on], M1)) rfl rfl rfl ?_
              refine ps_get (S' := (135, [(0, .ref on)], [.int (nI pc), .ref on, .ref on], M1)) rfl hl_on rfl rfl ?_
              refine ps_st (S' := (136, [(0, .ref on)], [.int 1, .int (nI pc), .ref on, .ref on], M1)) rfl rfl rfl ?_
              refine ps_st (S' := (137, [(0, .ref on)], [.int ((nI pc) + 1), .ref on, .ref on], M1)) rfl rfl rfl ?_
              rw [nI_add1 (p := pc) (k := 1) (x := 1) rfl (by omega)]
              show pl _ _ _ (_, [(0, .ref on)], [.int (nI (pc + 1)), .ref on, .ref on], M1) _
              refine pl_call (a := [.ref on, .int (nI (pc + 1))]) (rest := [.ref on]) rfl rfl rfl (dk_iu2 (f := f) (n := n) (on := on) (b := b) (da := da) (cb := cb) (L := L) (y3 := (nI o)) (y4 := (nI (szO o))) (y5 := 0) (y6 := 0) (y7 := 0) (y8 := 0) (y9 := (nI pc)) (y10 := y10) (y11 := y11) (a := (pc + 1)) hl_on hl_b hl_da (hn) (by omega)) (fun v4 M5 q6 => ?_)
              obtain ⟨rfl, rfl⟩ := q6
              show pl _ _ _ (140, [(0, .ref on)], [.int (nI (by2 f (cb + (pc + 1)))), .ref on], M1) _
              have hb_137 := by2_lt f (cb + (pc + 1))
              refine ps_st (S' := (141, [(0, .ref on)], [.int ((nI (by2 f (cb + (pc + 1)))).toInt16.toInt32), .ref on], M1)) rfl rfl rfl ?_
              refine ps_st (S' := (142, [(0, .ref on)], [.ref on, .int ((nI (by2 f (cb + (pc + 1)))).toInt16.toInt32), .ref on], M1)) rfl rfl rfl ?_
              refine ps_get (S' := (145, [(0, .ref on)], [.int (nI o), .int ((nI (by2 f (cb + (pc + 1)))).toInt16.toInt32), .ref on], M1)) rfl hl_on rfl rfl ?_
              refine pl_call (a := [.ref on, .int ((nI (by2 f (cb + (pc + 1)))).toInt16.toInt32), .int (nI o)]) (rest := []) rfl rfl rfl (dk_isJumpTaken (on := on) (b := b) (cb := cb) (L := L) (y3 := (nI o)) (y4 := (nI (szO o))) (y5 := 0) (y6 := 0) (y7 := 0) (y8 := 0) (y9 := (nI pc)) (y10 := y10) (y11 := y11) (vv := ((nI (by2 f (cb + (pc + 1)))).toInt16.toInt32)) (oo := (nI o)) hl_on) (fun v7 M8 q9 => ?_)
              obtain ⟨rfl, h10, f11⟩ := q9
              have h13 := (f11.1 b (nin1 (ob_ne hl_b hl_on (by decide)))).trans hl_b
              have h14 := (f11.1 da (nin1 (Ne.symm (ob_ar hl_on hl_da)))).trans hl_da
              have hF15 := hF1.tr f11 (by simp)
              show pl _ _ _ (148, [(0, .ref on)], [.int 1], M8) _
              exact ps_ret rfl rfl (Or.inl ⟨(o, 0, 0, 0, 1, some (((nI (by2 f (cb + (pc + 1)))).toInt16.toInt32))), by
                  unfold opC
                  first | ((repeat first | rw [if_pos (by omega)] | rw [if_neg (by omega)]) <;> first | rfl | omega) | ((repeat' split) <;> first | rfl | (exfalso; omega) | omega), rfl, h10, hF15⟩)
            · have c_106 : ¬ ((nI o) ≤ 168) := of_decide_eq_false c_106
              have n_106 : ¬ (o ≤ 168) := fun h9 => c_106 ((le_nI (p := o) (n := 168) (by omega) (by decide)).mpr h9)
              refine ps_st (S' := (110, [(0, .ref on)], [.ref on], M1)) rfl rfl rfl ?_
              refine ps_get (S' := (113, [(0, .ref on)], [.int (nI o)], M1)) rfl hl_on rfl rfl ?_
              refine ps_st (S' := (116, [(0, .ref on)], [.int 198, .int (nI o)], M1)) rfl rfl rfl ?_
              refine ps_if2 (S1 := (129, [(0, .ref on)], [], M1)) (S2 := (119, [(0, .ref on)], [], M1)) rfl rfl rfl (fun c_116 => ?_) (fun c_116 => ?_)
              · have c_116 : (nI o) = 198 := of_decide_eq_true c_116
                have n_116 : o = 198 := (eq_nI (p := o) (n := 198) (by omega) (by decide)).mp c_116
                have hz9 : szO o = 3 := by unfold szO; first | rw [if_pos (by omega)] | (rw [if_neg (by omega), if_neg (by omega), if_neg (by omega), if_pos (by omega)])
                refine ps_st (S' := (130, [(0, .ref on)], [.ref on], M1)) rfl rfl rfl ?_
                refine ps_st (S' := (131, [(0, .ref on)], [.ref on, .ref on], M1)) rfl rfl rfl ?_
                refine ps_st (S' := (132, [(0, .ref on)], [.ref on, .ref on, .ref on], M1)) rfl rfl rfl ?_
                refine ps_get (S' := (135, [(0, .ref on)], [.int (nI pc), .ref on, .ref on], M1)) rfl hl_on rfl rfl ?_
                refine ps_st (S' := (136, [(0, .ref on)], [.int 1, .int (nI pc), .ref on, .ref on], M1)) rfl rfl rfl ?_
                refine ps_st (S' := (137, [(0, .ref on)], [.int ((nI pc) + 1), .ref on, .ref on], M1)) rfl rfl rfl ?_
                rw [nI_add1 (p := pc) (k := 1) (x := 1) rfl (by omega)]
                show pl _ _ _ (_, [(0, .ref on)], [.int (nI (pc + 1)), .ref on, .ref on], M1) _
                refine pl_call (a := [.ref on, .int (nI (pc + 1))]) (rest := [.ref on]) rfl rfl rfl (dk_iu2 (f := f) (n := n) (on := on) (b := b) (da := da) (cb := cb) (L := L) (y3 := (nI o)) (y4 := (nI (szO o))) (y5 := 0) (y6 := 0) (y7 := 0) (y8 := 0) (y9 := (nI pc)) (y10 := y10) (y11 := y11) (a := (pc + 1)) hl_on hl_b hl_da (hn) (by omega)) (fun v16 M17 q18 => ?_)
                obtain ⟨rfl, rfl⟩ := q18
                show pl _ _ _ (140, [(0, .ref on)], [.int (nI (by2 f (cb + (pc + 1)))), .ref on], M1) _
                have hb_137 := by2_lt f (cb + (pc + 1))
                refine ps_st (S' := (141, [(0, .ref on)], [.int ((nI (by2 f (cb + (pc + 1)))).toInt16.toInt32), .ref on], M1)) rfl rfl rfl ?_
                refine ps_st (S' := (142, [(0, .ref on)], [.ref on, .int ((nI (by2 f (cb + (pc + 1)))).toInt16.toInt32), .ref on], M1)) rfl rfl rfl ?_
                refine ps_get (S' := (145, [(0, .ref on)], [.int (nI o), .int ((nI (by2 f (cb + (pc + 1)))).toInt16.toInt32), .ref on], M1)) rfl hl_on rfl rfl ?_
                refine pl_call (a := [.ref on, .int ((nI (by2 f (cb + (pc + 1)))).toInt16.toInt32), .int (nI o)]) (rest := []) rfl rfl rfl (dk_isJumpTaken (on := on) (b := b) (cb := cb) (L := L) (y3 := (nI o)) (y4 := (nI (szO o))) (y5 := 0) (y6 := 0) (y7 := 0) (y8 := 0) (y9 := (nI pc)) (y10 := y10) (y11 := y11) (vv := ((nI (by2 f (cb + (pc + 1)))).toInt16.toInt32)) (oo := (nI o)) hl_on) (fun v19 M20 q21 => ?_)
                obtain ⟨rfl, h22, f23⟩ := q21
                have h25 := (f23.1 b (nin1 (ob_ne hl_b hl_on (by decide)))).trans hl_b
                have h26 := (f23.1 da (nin1 (Ne.symm (ob_ar hl_on hl_da)))).trans hl_da
                have hF27 := hF1.tr f23 (by simp)
                show pl _ _ _ (148, [(0, .ref on)], [.int 1], M20) _
                exact ps_ret rfl rfl (Or.inl ⟨(o, 0, 0, 0, 1, some (((nI (by2 f (cb + (pc + 1)))).toInt16.toInt32))), by
                    unfold opC
                    first | ((repeat first | rw [if_pos (by omega)] | rw [if_neg (by omega)]) <;> first | rfl | omega) | ((repeat' split) <;> first | rfl | (exfalso; omega) | omega), rfl, h22, hF27⟩)
              · have c_116 : ¬ ((nI o) = 198) := of_decide_eq_false c_116
                have n_116 : ¬ (o = 198) := fun h9 => c_116 ((eq_nI (p := o) (n := 198) (by omega) (by decide)).mpr h9)
                refine ps_st (S' := (120, [(0, .ref on)], [.ref on], M1)) rfl rfl rfl ?_
                refine ps_get (S' := (123, [(0, .ref on)], [.int (nI o)], M1)) rfl hl_on rfl rfl ?_
                refine ps_st (S' := (126, [(0, .ref on)], [.int 199, .int (nI o)], M1)) rfl rfl rfl ?_
                refine ps_if2 (S1 := (149, [(0, .ref on)], [], M1)) (S2 := (129, [(0, .ref on)], [], M1)) rfl rfl rfl (fun c_126 => ?_) (fun c_126 => ?_)
                · have c_126 : ¬ (nI o) = 199 := of_decide_eq_true c_126
                  have n_126 : ¬ (o = 199) := fun h9 => c_126 ((eq_nI (p := o) (n := 199) (by omega) (by decide)).mpr h9)
                  exact ih.2 (0) M1 hl_on hl_b hl_da hF1 (by omega) (by omega) (by omega)
                · have c_126 : ¬ (¬ (nI o) = 199) := of_decide_eq_false c_126
                  have n_126 : o = 199 := (eq_nI (p := o) (n := 199) (by omega) (by decide)).mp (Decidable.not_not.mp c_126)
                  have hz9 : szO o = 3 := by unfold szO; first | rw [if_pos (by omega)] | (rw [if_neg (by omega), if_neg (by omega), if_neg (by omega), if_pos (by omega)])
                  refine ps_st (S' := (130, [(0, .ref on)], [.ref on], M1)) rfl rfl rfl ?_
                  refine ps_st (S' := (131, [(0, .ref on)], [.ref on, .ref on], M1)) rfl rfl rfl ?_
                  refine ps_st (S' := (132, [(0, .ref on)], [.ref on, .ref on, .ref on], M1)) rfl rfl rfl ?_
                  refine ps_get (S' := (135, [(0, .ref on)], [.int (nI pc), .ref on, .ref on], M1)) rfl hl_on rfl rfl ?_
                  refine ps_st (S' := (136, [(0, .ref on)], [.int 1, .int (nI pc), .ref on, .ref on], M1)) rfl rfl rfl ?_
                  refine ps_st (S' := (137, [(0, .ref on)], [.int ((nI pc) + 1), .ref on, .ref on], M1)) rfl rfl rfl ?_
                  rw [nI_add1 (p := pc) (k := 1) (x := 1) rfl (by omega)]
                  show pl _ _ _ (_, [(0, .ref on)], [.int (nI (pc + 1)), .ref on, .ref on], M1) _
                  refine pl_call (a := [.ref on, .int (nI (pc + 1))]) (rest := [.ref on]) rfl rfl rfl (dk_iu2 (f := f) (n := n) (on := on) (b := b) (da := da) (cb := cb) (L := L) (y3 := (nI o)) (y4 := (nI (szO o))) (y5 := 0) (y6 := 0) (y7 := 0) (y8 := 0) (y9 := (nI pc)) (y10 := y10) (y11 := y11) (a := (pc + 1)) hl_on hl_b hl_da (hn) (by omega)) (fun v28 M29 q30 => ?_)
                  obtain ⟨rfl, rfl⟩ := q30
                  show pl _ _ _ (140, [(0, .ref on)], [.int (nI (by2 f (cb + (pc + 1)))), .ref on], M1) _
                  have hb_137 := by2_lt f (cb + (pc + 1))
                  refine ps_st (S' := (141, [(0, .ref on)], [.int ((nI (by2 f (cb + (pc + 1)))).toInt16.toInt32), .ref on], M1)) rfl rfl rfl ?_
                  refine ps_st (S' := (142, [(0, .ref on)], [.ref on, .int ((nI (by2 f (cb + (pc + 1)))).toInt16.toInt32), .ref on], M1)) rfl rfl rfl ?_
                  refine ps_get (S' := (145, [(0, .ref on)], [.int (nI o), .int ((nI (by2 f (cb + (pc + 1)))).toInt16.toInt32), .ref on], M1)) rfl hl_on rfl rfl ?_
                  refine pl_call (a := [.ref on, .int ((nI (by2 f (cb + (pc + 1)))).toInt16.toInt32), .int (nI o)]) (rest := []) rfl rfl rfl (dk_isJumpTaken (on := on) (b := b) (cb := cb) (L := L) (y3 := (nI o)) (y4 := (nI (szO o))) (y5 := 0) (y6 := 0) (y7 := 0) (y8 := 0) (y9 := (nI pc)) (y10 := y10) (y11 := y11) (vv := ((nI (by2 f (cb + (pc + 1)))).toInt16.toInt32)) (oo := (nI o)) hl_on) (fun v31 M32 q33 => ?_)
                  obtain ⟨rfl, h34, f35⟩ := q33
                  have h37 := (f35.1 b (nin1 (ob_ne hl_b hl_on (by decide)))).trans hl_b
                  have h38 := (f35.1 da (nin1 (Ne.symm (ob_ar hl_on hl_da)))).trans hl_da
                  have hF39 := hF1.tr f35 (by simp)
                  show pl _ _ _ (148, [(0, .ref on)], [.int 1], M32) _
                  exact ps_ret rfl rfl (Or.inl ⟨(o, 0, 0, 0, 1, some (((nI (by2 f (cb + (pc + 1)))).toInt16.toInt32))), by
                      unfold opC
                      first | ((repeat first | rw [if_pos (by omega)] | rw [if_neg (by omega)]) <;> first | rfl | omega) | ((repeat' split) <;> first | rfl | (exfalso; omega) | omega), rfl, h34, hF39⟩)
        · have c_71 : ¬ ((nI (lcO o)) = 0) := of_decide_eq_false c_71
          have n_71 : ¬ (lcO o = 0) := fun h9 => c_71 ((eq_nI (p := lcO o) (n := 0) (by omega) (by decide)).mpr h9)
          have hz9 := lcO_sz (o := o) (by omega)
          refine ps_st (S' := (75, [(0, .ref on)], [.ref on], M1)) rfl rfl rfl ?_
          refine ps_st (S' := (76, [(0, .ref on)], [.ref on, .ref on], M1)) rfl rfl rfl ?_
          refine ps_st (S' := (77, [(0, .ref on)], [.ref on, .ref on, .ref on], M1)) rfl rfl rfl ?_
          refine ps_get (S' := (80, [(0, .ref on)], [.int (nI pc), .ref on, .ref on], M1)) rfl hl_on rfl rfl ?_
          refine ps_st (S' := (81, [(0, .ref on)], [.int 1, .int (nI pc), .ref on, .ref on], M1)) rfl rfl rfl ?_
          refine ps_st (S' := (82, [(0, .ref on)], [.int ((nI pc) + 1), .ref on, .ref on], M1)) rfl rfl rfl ?_
          rw [nI_add1 (p := pc) (k := 1) (x := 1) rfl (by omega)]
          show pl _ _ _ (_, [(0, .ref on)], [.int (nI (pc + 1)), .ref on, .ref on], M1) _
          refine pl_call (a := [.ref on, .int (nI (pc + 1))]) (rest := [.ref on]) rfl rfl rfl (dk_iu1 (f := f) (n := n) (on := on) (b := b) (da := da) (cb := cb) (L := L) (y3 := (nI o)) (y4 := (nI (szO o))) (y5 := 0) (y6 := 0) (y7 := 0) (y8 := 0) (y9 := (nI pc)) (y10 := y10) (y11 := y11) (a := (pc + 1)) hl_on hl_b hl_da (hn) (by omega)) (fun v40 M41 q42 => ?_)
          obtain ⟨rfl, rfl⟩ := q42
          show pl _ _ _ (85, [(0, .ref on)], [.int (nI (by1 f (cb + (pc + 1)))), .ref on], M1) _
          have hb_82 := by1_lt f (cb + (pc + 1))
          refine pl_call (a := [.ref on, .int (nI (by1 f (cb + (pc + 1))))]) (rest := []) rfl rfl rfl (dk_isLocalTaken (on := on) (b := b) (cb := cb) (L := L) (y4 := (nI (szO o))) (y5 := 0) (y6 := 0) (y7 := 0) (y8 := 0) (y9 := (nI pc)) (y10 := y10) (y11 := y11) (o := o) (vv := (nI (by1 f (cb + (pc + 1))))) hl_on (by omega)) (fun v43 M44 q45 => ?_)
          obtain ⟨rfl, h46, f47⟩ := q45
          have h49 := (f47.1 b (nin1 (ob_ne hl_b hl_on (by decide)))).trans hl_b
          have h50 := (f47.1 da (nin1 (Ne.symm (ob_ar hl_on hl_da)))).trans hl_da
          have hF51 := hF1.tr f47 (by simp)
          show pl _ _ _ (88, [(0, .ref on)], [.int 1], M44) _
          exact ps_ret rfl rfl (Or.inl ⟨(o, (nI (by1 f (cb + (pc + 1)))), 0, (lpO o), 0, none), by
              unfold opC
              first | ((repeat first | rw [if_pos (by omega)] | rw [if_neg (by omega)]) <;> first | rfl | omega) | ((repeat' split) <;> first | rfl | (exfalso; omega) | omega), rfl, h46, hF51⟩)
      · skip
        intro u9 M1 hl_on hl_b hl_da hF1 h64 hl0 hj0
        refine ps_st1 (S' := (150, [(0, .ref on)], [.ref on], M1)) rfl rfl rfl ?_
        refine ps_get (S' := (153, [(0, .ref on)], [.int (nI o)], M1)) rfl hl_on rfl rfl ?_
        refine pl_sw rfl (fun t_153 et_153 => ?_)
        have ht_153 : t_153 ∈ [228, 245, 262, 278, 300, 330, 348, 366] := mi_sw_sub et_153 (by decide)
        simp only [List.mem_cons, List.not_mem_nil, or_false] at ht_153
        rcases ht_153 with rfl | rfl | rfl | rfl | rfl | rfl | rfl | rfl
        · show pl _ _ _ (228, [(0, .ref on)], [], M1) _
          have m_153 := sw_nat (t := o) (by omega) et_153
          simp at m_153
          have hz9 : szO o = 2 := by rw [show o = 16 by omega]; rfl
          refine ps_st (S' := (229, [(0, .ref on)], [.ref on], M1)) rfl rfl rfl ?_
          refine ps_st (S' := (230, [(0, .ref on)], [.ref on, .ref on], M1)) rfl rfl rfl ?_
          refine ps_st (S' := (231, [(0, .ref on)], [.ref on, .ref on, .ref on], M1)) rfl rfl rfl ?_
          refine ps_get (S' := (234, [(0, .ref on)], [.int (nI pc), .ref on, .ref on], M1)) rfl hl_on rfl rfl ?_
          refine ps_st (S' := (235, [(0, .ref on)], [.int 1, .int (nI pc), .ref on, .ref on], M1)) rfl rfl rfl ?_
          refine ps_st (S' := (236, [(0, .ref on)], [.int ((nI pc) + 1), .ref on, .ref on], M1)) rfl rfl rfl ?_
          rw [nI_add1 (p := pc) (k := 1) (x := 1) rfl (by omega)]
          show pl _ _ _ (_, [(0, .ref on)], [.int (nI (pc + 1)), .ref on, .ref on], M1) _
          refine pl_call (a := [.ref on, .int (nI (pc + 1))]) (rest := [.ref on]) rfl rfl rfl (dk_iu1 (f := f) (n := n) (on := on) (b := b) (da := da) (cb := cb) (L := L) (y3 := (nI o)) (y4 := (nI (szO o))) (y5 := 0) (y6 := 0) (y7 := 0) (y8 := 0) (y9 := (nI pc)) (y10 := y10) (y11 := y11) (a := (pc + 1)) hl_on hl_b hl_da (hn) (by omega)) (fun v52 M53 q54 => ?_)
          obtain ⟨rfl, rfl⟩ := q54
          show pl _ _ _ (239, [(0, .ref on)], [.int (nI (by1 f (cb + (pc + 1)))), .ref on], M1) _
          have hb_236 := by1_lt f (cb + (pc + 1))
          refine ps_st (S' := (240, [(0, .ref on)], [.int ((nI (by1 f (cb + (pc + 1)))).toInt8.toInt32), .ref on], M1)) rfl rfl rfl ?_
          refine ps_put (l' := [.ref b, .int (nI cb), .int (nI L), .int (nI o), .int (nI (szO o)), .int ((nI (by1 f (cb + (pc + 1)))).toInt8.toInt32), .int 0, .int 0, .int 0, .int (nI pc), .int y10, .int y11]) rfl hl_on rfl rfl (fun M55 h56 f57 z58 => ?_)
          have h59 := (f57 b (ob_ne hl_b hl_on (by decide))).trans hl_b
          have h60 := (f57 da (Ne.symm (ob_ar hl_on hl_da))).trans hl_da
          have hF61 := hF1.up (by simp) f57 z58
          show pl _ _ _ (243, [(0, .ref on)], [], M55) _
          refine ps_st (S' := (244, [(0, .ref on)], [.int 1], M55)) rfl rfl rfl ?_
          exact ps_ret rfl rfl (Or.inl ⟨(o, ((nI (by1 f (cb + (pc + 1)))).toInt8.toInt32), 0, 0, 0, none), by
              unfold opC
              first | ((repeat first | rw [if_pos (by omega)] | rw [if_neg (by omega)]) <;> first | rfl | omega) | ((repeat' split) <;> first | rfl | (exfalso; omega) | omega), rfl, h56, hF61⟩)
        · show pl _ _ _ (245, [(0, .ref on)], [], M1) _
          have m_153 := sw_nat (t := o) (by omega) et_153
          simp at m_153
          have hz9 : szO o = 3 := by rw [show o = 17 by omega]; rfl
          refine ps_st (S' := (246, [(0, .ref on)], [.ref on], M1)) rfl rfl rfl ?_
          refine ps_st (S' := (247, [(0, .ref on)], [.ref on, .ref on], M1)) rfl rfl rfl ?_
          refine ps_st (S' := (248, [(0, .ref on)], [.ref on, .ref on, .ref on], M1)) rfl rfl rfl ?_
          refine ps_get (S' := (251, [(0, .ref on)], [.int (nI pc), .ref on, .ref on], M1)) rfl hl_on rfl rfl ?_
          refine ps_st (S' := (252, [(0, .ref on)], [.int 1, .int (nI pc), .ref on, .ref on], M1)) rfl rfl rfl ?_
          refine ps_st (S' := (253, [(0, .ref on)], [.int ((nI pc) + 1), .ref on, .ref on], M1)) rfl rfl rfl ?_
          rw [nI_add1 (p := pc) (k := 1) (x := 1) rfl (by omega)]
          show pl _ _ _ (_, [(0, .ref on)], [.int (nI (pc + 1)), .ref on, .ref on], M1) _
          refine pl_call (a := [.ref on, .int (nI (pc + 1))]) (rest := [.ref on]) rfl rfl rfl (dk_iu2 (f := f) (n := n) (on := on) (b := b) (da := da) (cb := cb) (L := L) (y3 := (nI o)) (y4 := (nI (szO o))) (y5 := 0) (y6 := 0) (y7 := 0) (y8 := 0) (y9 := (nI pc)) (y10 := y10) (y11 := y11) (a := (pc + 1)) hl_on hl_b hl_da (hn) (by omega)) (fun v62 M63 q64 => ?_)
          obtain ⟨rfl, rfl⟩ := q64
          show pl _ _ _ (256, [(0, .ref on)], [.int (nI (by2 f (cb + (pc + 1)))), .ref on], M1) _
          have hb_253 := by2_lt f (cb + (pc + 1))
          refine ps_st (S' := (257, [(0, .ref on)], [.int ((nI (by2 f (cb + (pc + 1)))).toInt16.toInt32), .ref on], M1)) rfl rfl rfl ?_
          refine ps_put (l' := [.ref b, .int (nI cb), .int (nI L), .int (nI o), .int (nI (szO o)), .int ((nI (by2 f (cb + (pc + 1)))).toInt16.toInt32), .int 0, .int 0, .int 0, .int (nI pc), .int y10, .int y11]) rfl hl_on rfl rfl (fun M65 h66 f67 z68 => ?_)
          have h69 := (f67 b (ob_ne hl_b hl_on (by decide))).trans hl_b
          have h70 := (f67 da (Ne.symm (ob_ar hl_on hl_da))).trans hl_da
          have hF71 := hF1.up (by simp) f67 z68
          show pl _ _ _ (260, [(0, .ref on)], [], M65) _
          refine ps_st (S' := (261, [(0, .ref on)], [.int 1], M65)) rfl rfl rfl ?_
          exact ps_ret rfl rfl (Or.inl ⟨(o, ((nI (by2 f (cb + (pc + 1)))).toInt16.toInt32), 0, 0, 0, none), by
              unfold opC
              first | ((repeat first | rw [if_pos (by omega)] | rw [if_neg (by omega)]) <;> first | rfl | omega) | ((repeat' split) <;> first | rfl | (exfalso; omega) | omega), rfl, h66, hF71⟩)
        · show pl _ _ _ (262, [(0, .ref on)], [], M1) _
          have m_153 := sw_nat (t := o) (by omega) et_153
          simp at m_153
          have hz9 : szO o = 2 := by rcases (show o = 18 ∨ o = 188 by omega) with h9 | h9 <;> rw [h9] <;> rfl
          refine ps_st (S' := (263, [(0, .ref on)], [.ref on], M1)) rfl rfl rfl ?_
          refine ps_st (S' := (264, [(0, .ref on)], [.ref on, .ref on], M1)) rfl rfl rfl ?_
          refine ps_st (S' := (265, [(0, .ref on)], [.ref on, .ref on, .ref on], M1)) rfl rfl rfl ?_
          refine ps_get (S' := (268, [(0, .ref on)], [.int (nI pc), .ref on, .ref on], M1)) rfl hl_on rfl rfl ?_
          refine ps_st (S' := (269, [(0, .ref on)], [.int 1, .int (nI pc), .ref on, .ref on], M1)) rfl rfl rfl ?_
          refine ps_st (S' := (270, [(0, .ref on)], [.int ((nI pc) + 1), .ref on, .ref on], M1)) rfl rfl rfl ?_
          rw [nI_add1 (p := pc) (k := 1) (x := 1) rfl (by omega)]
          show pl _ _ _ (_, [(0, .ref on)], [.int (nI (pc + 1)), .ref on, .ref on], M1) _
          refine pl_call (a := [.ref on, .int (nI (pc + 1))]) (rest := [.ref on]) rfl rfl rfl (dk_iu1 (f := f) (n := n) (on := on) (b := b) (da := da) (cb := cb) (L := L) (y3 := (nI o)) (y4 := (nI (szO o))) (y5 := 0) (y6 := 0) (y7 := 0) (y8 := 0) (y9 := (nI pc)) (y10 := y10) (y11 := y11) (a := (pc + 1)) hl_on hl_b hl_da (hn) (by omega)) (fun v72 M73 q74 => ?_)
          obtain ⟨rfl, rfl⟩ := q74
          show pl _ _ _ (273, [(0, .ref on)], [.int (nI (by1 f (cb + (pc + 1)))), .ref on], M1) _
          have hb_270 := by1_lt f (cb + (pc + 1))
          refine ps_put (l' := [.ref b, .int (nI cb), .int (nI L), .int (nI o), .int (nI (szO o)), .int (nI (by1 f (cb + (pc + 1)))), .int 0, .int 0, .int 0, .int (nI pc), .int y10, .int y11]) rfl hl_on rfl rfl (fun M75 h76 f77 z78 => ?_)
          have h79 := (f77 b (ob_ne hl_b hl_on (by decide))).trans hl_b
          have h80 := (f77 da (Ne.symm (ob_ar hl_on hl_da))).trans hl_da
          have hF81 := hF1.up (by simp) f77 z78
          show pl _ _ _ (276, [(0, .ref on)], [], M75) _
          refine ps_st (S' := (277, [(0, .ref on)], [.int 1], M75)) rfl rfl rfl ?_
          exact ps_ret rfl rfl (Or.inl ⟨(o, (nI (by1 f (cb + (pc + 1)))), 0, 0, 0, none), by
              unfold opC
              first | ((repeat first | rw [if_pos (by omega)] | rw [if_neg (by omega)]) <;> first | rfl | omega) | ((repeat' split) <;> first | rfl | (exfalso; omega) | omega), rfl, h76, hF81⟩)
        · show pl _ _ _ (278, [(0, .ref on)], [], M1) _
          have m_153 := sw_nat (t := o) (by omega) et_153
          simp at m_153
          have hz9 : szO o = 3 := by rw [show o = 19 by omega]; rfl
          refine ps_st (S' := (279, [(0, .ref on)], [.ref on], M1)) rfl rfl rfl ?_
          refine ps_st (S' := (281, [(0, .ref on)], [.int 18, .ref on], M1)) rfl rfl rfl ?_
          refine ps_put (l' := [.ref b, .int (nI cb), .int (nI L), .int 18, .int (nI (szO o)), .int 0, .int 0, .int 0, .int 0, .int (nI pc), .int y10, .int y11]) rfl hl_on rfl rfl (fun M82 h83 f84 z85 => ?_)
          have h86 := (f84 b (ob_ne hl_b hl_on (by decide))).trans hl_b
          have h87 := (f84 da (Ne.symm (ob_ar hl_on hl_da))).trans hl_da
          have hF88 := hF1.up (by simp) f84 z85
          show pl _ _ _ (284, [(0, .ref on)], [], M82) _
          refine ps_st (S' := (285, [(0, .ref on)], [.ref on], M82)) rfl rfl rfl ?_
          refine ps_st (S' := (286, [(0, .ref on)], [.ref on, .ref on], M82)) rfl rfl rfl ?_
          refine ps_st (S' := (287, [(0, .ref on)], [.ref on, .ref on, .ref on], M82)) rfl rfl rfl ?_
          refine ps_get (S' := (290, [(0, .ref on)], [.int (nI pc), .ref on, .ref on], M82)) rfl h83 rfl rfl ?_
          refine ps_st (S' := (291, [(0, .ref on)], [.int 1, .int (nI pc), .ref on, .ref on], M82)) rfl rfl rfl ?_
          refine ps_st (S' := (292, [(0, .ref on)], [.int ((nI pc) + 1), .ref on, .ref on], M82)) rfl rfl rfl ?_
          rw [nI_add1 (p := pc) (k := 1) (x := 1) rfl (by omega)]
          show pl _ _ _ (_, [(0, .ref on)], [.int (nI (pc + 1)), .ref on, .ref on], M82) _
          refine pl_call (a := [.ref on, .int (nI (pc + 1))]) (rest := [.ref on]) rfl rfl rfl (dk_iu2 (f := f) (n := n) (on := on) (b := b) (da := da) (cb := cb) (L := L) (y3 := 18) (y4 := (nI (szO o))) (y5 := 0) (y6 := 0) (y7 := 0) (y8 := 0) (y9 := (nI pc)) (y10 := y10) (y11 := y11) (a := (pc + 1)) h83 h86 h87 (hn) (by omega)) (fun v89 M90 q91 => ?_)
          obtain ⟨rfl, rfl⟩ := q91
          show pl _ _ _ (295, [(0, .ref on)], [.int (nI (by2 f (cb + (pc + 1)))), .ref on], M82) _
          have hb_292 := by2_lt f (cb + (pc + 1))
          refine ps_put (l' := [.ref b, .int (nI cb), .int (nI L), .int 18, .int (nI (szO o)), .int (nI (by2 f (cb + (pc + 1)))), .int 0, .int 0, .int 0, .int (nI pc), .int y10, .int y11]) rfl h83 rfl rfl (fun M92 h93 f94 z95 => ?_)
          have h96 := (f94 b (ob_ne h86 h83 (by decide))).trans h86
          have h97 := (f94 da (Ne.symm (ob_ar h83 h87))).trans h87
          have hF98 := hF88.up (by simp) f94 z95
          show pl _ _ _ (298, [(0, .ref on)], [], M92) _
          refine ps_st (S' := (299, [(0, .ref on)], [.int 1], M92)) rfl rfl rfl ?_
          exact ps_ret rfl rfl (Or.inl ⟨(18, (nI (by2 f (cb + (pc + 1)))), 0, 0, 0, none), by
              unfold opC
              first | ((repeat first | rw [if_pos (by omega)] | rw [if_neg (by omega)]) <;> first | rfl | omega) | ((repeat' split) <;> first | rfl | (exfalso; omega) | omega), rfl, h93, hF98⟩)
        · show pl _ _ _ (300, [(0, .ref on)], [], M1) _
          have m_153 := sw_nat (t := o) (by omega) et_153
          simp at m_153
          have hz9 : szO o = 3 := by rw [show o = 132 by omega]; rfl
          refine ps_st (S' := (301, [(0, .ref on)], [.ref on], M1)) rfl rfl rfl ?_
          refine ps_st (S' := (302, [(0, .ref on)], [.ref on, .ref on], M1)) rfl rfl rfl ?_
          refine ps_st (S' := (303, [(0, .ref on)], [.ref on, .ref on, .ref on], M1)) rfl rfl rfl ?_
          refine ps_get (S' := (306, [(0, .ref on)], [.int (nI pc), .ref on, .ref on], M1)) rfl hl_on rfl rfl ?_
          refine ps_st (S' := (307, [(0, .ref on)], [.int 2, .int (nI pc), .ref on, .ref on], M1)) rfl rfl rfl ?_
          refine ps_st (S' := (308, [(0, .ref on)], [.int ((nI pc) + 2), .ref on, .ref on], M1)) rfl rfl rfl ?_
          rw [nI_add1 (p := pc) (k := 2) (x := 2) rfl (by omega)]
          show pl _ _ _ (_, [(0, .ref on)], [.int (nI (pc + 2)), .ref on, .ref on], M1) _
          refine pl_call (a := [.ref on, .int (nI (pc + 2))]) (rest := [.ref on]) rfl rfl rfl (dk_iu1 (f := f) (n := n) (on := on) (b := b) (da := da) (cb := cb) (L := L) (y3 := (nI o)) (y4 := (nI (szO o))) (y5 := 0) (y6 := 0) (y7 := 0) (y8 := 0) (y9 := (nI pc)) (y10 := y10) (y11 := y11) (a := (pc + 2)) hl_on hl_b hl_da (hn) (by omega)) (fun v99 M100 q101 => ?_)
          obtain ⟨rfl, rfl⟩ := q101
          show pl _ _ _ (311, [(0, .ref on)], [.int (nI (by1 f (cb + (pc + 2)))), .ref on], M1) _
          have hb_308 := by1_lt f (cb + (pc + 2))
          refine ps_st (S' := (312, [(0, .ref on)], [.int ((nI (by1 f (cb + (pc + 2)))).toInt8.toInt32), .ref on], M1)) rfl rfl rfl ?_
          refine ps_put (l' := [.ref b, .int (nI cb), .int (nI L), .int (nI o), .int (nI (szO o)), .int 0, .int ((nI (by1 f (cb + (pc + 2)))).toInt8.toInt32), .int 0, .int 0, .int (nI pc), .int y10, .int y11]) rfl hl_on rfl rfl (fun M102 h103 f104 z105 => ?_)
          have h106 := (f104 b (ob_ne hl_b hl_on (by decide))).trans hl_b
          have h107 := (f104 da (Ne.symm (ob_ar hl_on hl_da))).trans hl_da
          have hF108 := hF1.up (by simp) f104 z105
          show pl _ _ _ (315, [(0, .ref on)], [], M102) _
          refine ps_st (S' := (316, [(0, .ref on)], [.ref on], M102)) rfl rfl rfl ?_
          refine ps_st (S' := (317, [(0, .ref on)], [.ref on, .ref on], M102)) rfl rfl rfl ?_
          refine ps_st (S' := (318, [(0, .ref on)], [.ref on, .ref on, .ref on], M102)) rfl rfl rfl ?_
          refine ps_get (S' := (321, [(0, .ref on)], [.int (nI pc), .ref on, .ref on], M102)) rfl h103 rfl rfl ?_
          refine ps_st (S' := (322, [(0, .ref on)], [.int 1, .int (nI pc), .ref on, .ref on], M102)) rfl rfl rfl ?_
          refine ps_st (S' := (323, [(0, .ref on)], [.int ((nI pc) + 1), .ref on, .ref on], M102)) rfl rfl rfl ?_
          rw [nI_add1 (p := pc) (k := 1) (x := 1) rfl (by omega)]
          show pl _ _ _ (_, [(0, .ref on)], [.int (nI (pc + 1)), .ref on, .ref on], M102) _
          refine pl_call (a := [.ref on, .int (nI (pc + 1))]) (rest := [.ref on]) rfl rfl rfl (dk_iu1 (f := f) (n := n) (on := on) (b := b) (da := da) (cb := cb) (L := L) (y3 := (nI o)) (y4 := (nI (szO o))) (y5 := 0) (y6 := ((nI (by1 f (cb + (pc + 2)))).toInt8.toInt32)) (y7 := 0) (y8 := 0) (y9 := (nI pc)) (y10 := y10) (y11 := y11) (a := (pc + 1)) h103 h106 h107 (hn) (by omega)) (fun v109 M110 q111 => ?_)
          obtain ⟨rfl, rfl⟩ := q111
          show pl _ _ _ (326, [(0, .ref on)], [.int (nI (by1 f (cb + (pc + 1)))), .ref on], M102) _
          have hb_323 := by1_lt f (cb + (pc + 1))
          refine pl_call (a := [.ref on, .int (nI (by1 f (cb + (pc + 1))))]) (rest := []) rfl rfl rfl (dk_isLocalTaken (on := on) (b := b) (cb := cb) (L := L) (y4 := (nI (szO o))) (y5 := 0) (y6 := ((nI (by1 f (cb + (pc + 2)))).toInt8.toInt32)) (y7 := 0) (y8 := 0) (y9 := (nI pc)) (y10 := y10) (y11 := y11) (o := o) (vv := (nI (by1 f (cb + (pc + 1))))) h103 (by omega)) (fun v112 M113 q114 => ?_)
          obtain ⟨rfl, h115, f116⟩ := q114
          have h118 := (f116.1 b (nin1 (ob_ne h106 h103 (by decide)))).trans h106
          have h119 := (f116.1 da (nin1 (Ne.symm (ob_ar h103 h107)))).trans h107
          have hF120 := hF108.tr f116 (by simp)
          show pl _ _ _ (329, [(0, .ref on)], [.int 1], M113) _
          exact ps_ret rfl rfl (Or.inl ⟨(o, (nI (by1 f (cb + (pc + 1)))), ((nI (by1 f (cb + (pc + 2)))).toInt8.toInt32), (lpO o), 0, none), by
              unfold opC
              first | ((repeat first | rw [if_pos (by omega)] | rw [if_neg (by omega)]) <;> first | rfl | omega) | ((repeat' split) <;> first | rfl | (exfalso; omega) | omega), rfl, h115, hF120⟩)
        · show pl _ _ _ (330, [(0, .ref on)], [], M1) _
          have m_153 := sw_nat (t := o) (by omega) et_153
          simp at m_153
          have hz9 : szO o = 5 := by rw [show o = 200 by omega]; rfl
          refine ps_st (S' := (331, [(0, .ref on)], [.ref on], M1)) rfl rfl rfl ?_
          refine ps_st (S' := (332, [(0, .ref on)], [.ref on, .ref on], M1)) rfl rfl rfl ?_
          refine ps_st (S' := (333, [(0, .ref on)], [.ref on, .ref on, .ref on], M1)) rfl rfl rfl ?_
          refine ps_get (S' := (336, [(0, .ref on)], [.int (nI pc), .ref on, .ref on], M1)) rfl hl_on rfl rfl ?_
          refine ps_st (S' := (337, [(0, .ref on)], [.int 1, .int (nI pc), .ref on, .ref on], M1)) rfl rfl rfl ?_
          refine ps_st (S' := (338, [(0, .ref on)], [.int ((nI pc) + 1), .ref on, .ref on], M1)) rfl rfl rfl ?_
          rw [nI_add1 (p := pc) (k := 1) (x := 1) rfl (by omega)]
          show pl _ _ _ (_, [(0, .ref on)], [.int (nI (pc + 1)), .ref on, .ref on], M1) _
          refine pl_call (a := [.ref on, .int (nI (pc + 1))]) (rest := [.ref on]) rfl rfl rfl (dk_is4 (f := f) (n := n) (on := on) (b := b) (da := da) (cb := cb) (L := L) (y3 := (nI o)) (y4 := (nI (szO o))) (y5 := 0) (y6 := 0) (y7 := 0) (y8 := 0) (y9 := (nI pc)) (y10 := y10) (y11 := y11) (a := (pc + 1)) hl_on hl_b hl_da (hn) (by omega)) (fun v121 M122 q123 => ?_)
          obtain ⟨rfl, rfl⟩ := q123
          show pl _ _ _ (341, [(0, .ref on)], [.int (nI (by4 f (cb + (pc + 1)))), .ref on], M1) _
          have hb_338 := by4_lt f (cb + (pc + 1))
          refine ps_st (S' := (344, [(0, .ref on)], [.int 167, .int (nI (by4 f (cb + (pc + 1)))), .ref on], M1)) rfl rfl rfl ?_
          refine pl_call (a := [.ref on, .int (nI (by4 f (cb + (pc + 1)))), .int 167]) (rest := []) rfl rfl rfl (dk_isJumpTaken (on := on) (b := b) (cb := cb) (L := L) (y3 := (nI o)) (y4 := (nI (szO o))) (y5 := 0) (y6 := 0) (y7 := 0) (y8 := 0) (y9 := (nI pc)) (y10 := y10) (y11 := y11) (vv := (nI (by4 f (cb + (pc + 1))))) (oo := 167) hl_on) (fun v124 M125 q126 => ?_)
          obtain ⟨rfl, h127, f128⟩ := q126
          have h130 := (f128.1 b (nin1 (ob_ne hl_b hl_on (by decide)))).trans hl_b
          have h131 := (f128.1 da (nin1 (Ne.symm (ob_ar hl_on hl_da)))).trans hl_da
          have hF132 := hF1.tr f128 (by simp)
          show pl _ _ _ (347, [(0, .ref on)], [.int 1], M125) _
          exact ps_ret rfl rfl (Or.inl ⟨(167, 0, 0, 0, 1, some ((nI (by4 f (cb + (pc + 1)))))), by
              unfold opC
              first | ((repeat first | rw [if_pos (by omega)] | rw [if_neg (by omega)]) <;> first | rfl | omega) | ((repeat' split) <;> first | rfl | (exfalso; omega) | omega), rfl, h127, hF132⟩)
        · show pl _ _ _ (348, [(0, .ref on)], [], M1) _
          have m_153 := sw_nat (t := o) (by omega) et_153
          simp at m_153
          have hz9 : szO o = 5 := by rw [show o = 201 by omega]; rfl
          refine ps_st (S' := (349, [(0, .ref on)], [.ref on], M1)) rfl rfl rfl ?_
          refine ps_st (S' := (350, [(0, .ref on)], [.ref on, .ref on], M1)) rfl rfl rfl ?_
          refine ps_st (S' := (351, [(0, .ref on)], [.ref on, .ref on, .ref on], M1)) rfl rfl rfl ?_
          refine ps_get (S' := (354, [(0, .ref on)], [.int (nI pc), .ref on, .ref on], M1)) rfl hl_on rfl rfl ?_
          refine ps_st (S' := (355, [(0, .ref on)], [.int 1, .int (nI pc), .ref on, .ref on], M1)) rfl rfl rfl ?_
          refine ps_st (S' := (356, [(0, .ref on)], [.int ((nI pc) + 1), .ref on, .ref on], M1)) rfl rfl rfl ?_
          rw [nI_add1 (p := pc) (k := 1) (x := 1) rfl (by omega)]
          show pl _ _ _ (_, [(0, .ref on)], [.int (nI (pc + 1)), .ref on, .ref on], M1) _
          refine pl_call (a := [.ref on, .int (nI (pc + 1))]) (rest := [.ref on]) rfl rfl rfl (dk_is4 (f := f) (n := n) (on := on) (b := b) (da := da) (cb := cb) (L := L) (y3 := (nI o)) (y4 := (nI (szO o))) (y5 := 0) (y6 := 0) (y7 := 0) (y8 := 0) (y9 := (nI pc)) (y10 := y10) (y11 := y11) (a := (pc + 1)) hl_on hl_b hl_da (hn) (by omega)) (fun v133 M134 q135 => ?_)
          obtain ⟨rfl, rfl⟩ := q135
          show pl _ _ _ (359, [(0, .ref on)], [.int (nI (by4 f (cb + (pc + 1)))), .ref on], M1) _
          have hb_356 := by4_lt f (cb + (pc + 1))
          refine ps_st (S' := (362, [(0, .ref on)], [.int 168, .int (nI (by4 f (cb + (pc + 1)))), .ref on], M1)) rfl rfl rfl ?_
          refine pl_call (a := [.ref on, .int (nI (by4 f (cb + (pc + 1)))), .int 168]) (rest := []) rfl rfl rfl (dk_isJumpTaken (on := on) (b := b) (cb := cb) (L := L) (y3 := (nI o)) (y4 := (nI (szO o))) (y5 := 0) (y6 := 0) (y7 := 0) (y8 := 0) (y9 := (nI pc)) (y10 := y10) (y11 := y11) (vv := (nI (by4 f (cb + (pc + 1))))) (oo := 168) hl_on) (fun v136 M137 q138 => ?_)
          obtain ⟨rfl, h139, f140⟩ := q138
          have h142 := (f140.1 b (nin1 (ob_ne hl_b hl_on (by decide)))).trans hl_b
          have h143 := (f140.1 da (nin1 (Ne.symm (ob_ar hl_on hl_da)))).trans hl_da
          have hF144 := hF1.tr f140 (by simp)
          show pl _ _ _ (365, [(0, .ref on)], [.int 1], M137) _
          exact ps_ret rfl rfl (Or.inl ⟨(168, 0, 0, 0, 1, some ((nI (by4 f (cb + (pc + 1)))))), by
              unfold opC
              first | ((repeat first | rw [if_pos (by omega)] | rw [if_neg (by omega)]) <;> first | rfl | omega) | ((repeat' split) <;> first | rfl | (exfalso; omega) | omega), rfl, h139, hF144⟩)
        · show pl _ _ _ (366, [(0, .ref on)], [], M1) _
          have m_153 := sw_nat (t := o) (by omega) et_153
          simp at m_153
          refine ps_st (S' := (367, [(0, .ref on)], [.ref on], M1)) rfl rfl rfl ?_
          refine pl_call (a := [.ref on]) (rest := []) rfl rfl rfl (dk_isIndexTaken (f := f) (n := n) (on := on) (b := b) (da := da) (cb := cb) (L := L) (y7 := 0) (y8 := 0) (y10 := y10) (y11 := y11) (pc := pc) (o := o) hl_on hl_b hl_da (hn) (ho) (hcl) (hpl) (hsz)) (fun v145 M146 q147 => ?_)
          rcases q147 with q147 | q147
          · skip
            obtain ⟨x148, q367_s, rfl, h149, f150⟩ := q147
            have h152 := (f150.1 b (nin1 (ob_ne hl_b hl_on (by decide)))).trans hl_b
            have h153 := (f150.1 da (nin1 (Ne.symm (ob_ar hl_on hl_da)))).trans hl_da
            have hF154 := hF1.tr f150 (by simp)
            show pl _ _ _ (370, [(0, .ref on)], [.int 1], M146) _
            exact ps_ret rfl rfl (Or.inl ⟨(o, x148.1, x148.2, 0, 0, none), by
                unfold opC
                rw [if_neg (by omega), if_neg (by omega), if_neg (by omega), if_neg (by omega), if_neg (by omega), if_neg (by omega), if_neg (by omega), if_neg (by omega), if_neg (by omega), if_neg (by omega), if_neg (by omega), q367_s], rfl, h149, hF154⟩)
          · skip
            obtain ⟨z5155, z6156, q367_s, rfl, h157, f158⟩ := q147
            have h160 := (f158.1 b (nin1 (ob_ne hl_b hl_on (by decide)))).trans hl_b
            have h161 := (f158.1 da (nin1 (Ne.symm (ob_ar hl_on hl_da)))).trans hl_da
            have hF162 := hF1.tr f158 (by simp)
            show pl _ _ _ (370, [(0, .ref on)], [.int 0], M146) _
            exact ps_ret rfl rfl (Or.inr ⟨_, _, _, _, _, _, by
                unfold opC
                rw [if_neg (by omega), if_neg (by omega), if_neg (by omega), if_neg (by omega), if_neg (by omega), if_neg (by omega), if_neg (by omega), if_neg (by omega), if_neg (by omega), if_neg (by omega), if_neg (by omega), q367_s], rfl, h157, hF162⟩)
  refine ps_st (S' := (1, [(0, .ref on)], [.ref on], M)) rfl rfl rfl ?_
  refine ps_get (S' := (4, [(0, .ref on)], [.int (nI o)], M)) rfl h_on rfl rfl ?_
  refine ps_st (S' := (6, [(0, .ref on)], [.int 26, .int (nI o)], M)) rfl rfl rfl ?_
  refine ps_if2 (S1 := (32, [(0, .ref on)], [], M)) (S2 := (9, [(0, .ref on)], [], M)) rfl rfl rfl (fun c_6 => ?_) (fun c_6 => ?_)
  · have c_6 : (nI o) < 26 := of_decide_eq_true c_6
    have n_6 : o < 26 := (lt_nI (p := o) (n := 26) (by omega) (by decide)).mp c_6
    refine ps_st (S' := (33, [(0, .ref on)], [.ref on], M)) rfl rfl rfl ?_
    refine ps_get (S' := (36, [(0, .ref on)], [.int (nI o)], M)) rfl h_on rfl rfl ?_
    refine ps_st (S' := (38, [(0, .ref on)], [.int 59, .int (nI o)], M)) rfl rfl rfl ?_
    refine ps_if2 (S1 := (64, [(0, .ref on)], [], M)) (S2 := (41, [(0, .ref on)], [], M)) rfl rfl rfl (fun c_38 => ?_) (fun c_38 => ?_)
    rotate_left
    · exact absurd ((lt_nI (p := o) (n := 59) (by omega) (by decide)).mpr (by omega)) (of_decide_eq_false c_38)
    exact (LL kf).1 (0) M h_on h_b h_da hF (by omega)
  · have c_6 : ¬ ((nI o) < 26) := of_decide_eq_false c_6
    have n_6 : ¬ (o < 26) := fun h9 => c_6 ((lt_nI (p := o) (n := 26) (by omega) (by decide)).mpr h9)
    refine ps_st (S' := (10, [(0, .ref on)], [.ref on], M)) rfl rfl rfl ?_
    refine ps_get (S' := (13, [(0, .ref on)], [.int (nI o)], M)) rfl h_on rfl rfl ?_
    refine ps_st (S' := (15, [(0, .ref on)], [.int 45, .int (nI o)], M)) rfl rfl rfl ?_
    refine ps_if2 (S1 := (32, [(0, .ref on)], [], M)) (S2 := (18, [(0, .ref on)], [], M)) rfl rfl rfl (fun c_15 => ?_) (fun c_15 => ?_)
    · have c_15 : 45 < (nI o) := of_decide_eq_true c_15
      have n_15 : 45 < o := (lt_nI (p := 45) (n := o) (by decide) (by omega)).mp c_15
      refine ps_st (S' := (33, [(0, .ref on)], [.ref on], M)) rfl rfl rfl ?_
      refine ps_get (S' := (36, [(0, .ref on)], [.int (nI o)], M)) rfl h_on rfl rfl ?_
      refine ps_st (S' := (38, [(0, .ref on)], [.int 59, .int (nI o)], M)) rfl rfl rfl ?_
      refine ps_if2 (S1 := (64, [(0, .ref on)], [], M)) (S2 := (41, [(0, .ref on)], [], M)) rfl rfl rfl (fun c_38 => ?_) (fun c_38 => ?_)
      · have c_38 : (nI o) < 59 := of_decide_eq_true c_38
        have n_38 : o < 59 := (lt_nI (p := o) (n := 59) (by omega) (by decide)).mp c_38
        exact (LL kf).1 (0) M h_on h_b h_da hF (by omega)
      · have c_38 : ¬ ((nI o) < 59) := of_decide_eq_false c_38
        have n_38 : ¬ (o < 59) := fun h9 => c_38 ((lt_nI (p := o) (n := 59) (by omega) (by decide)).mpr h9)
        refine ps_st (S' := (42, [(0, .ref on)], [.ref on], M)) rfl rfl rfl ?_
        refine ps_get (S' := (45, [(0, .ref on)], [.int (nI o)], M)) rfl h_on rfl rfl ?_
        refine ps_st (S' := (47, [(0, .ref on)], [.int 78, .int (nI o)], M)) rfl rfl rfl ?_
        refine ps_if2 (S1 := (64, [(0, .ref on)], [], M)) (S2 := (50, [(0, .ref on)], [], M)) rfl rfl rfl (fun c_47 => ?_) (fun c_47 => ?_)
        · have c_47 : 78 < (nI o) := of_decide_eq_true c_47
          have n_47 : 78 < o := (lt_nI (p := 78) (n := o) (by decide) (by omega)).mp c_47
          exact (LL kf).1 (0) M h_on h_b h_da hF (by omega)
        · have c_47 : ¬ (78 < (nI o)) := of_decide_eq_false c_47
          have n_47 : ¬ (78 < o) := fun h9 => c_47 ((lt_nI (p := 78) (n := o) (by decide) (by omega)).mpr h9)
          refine ps_st (S' := (51, [(0, .ref on)], [.ref on], M)) rfl rfl rfl ?_
          refine ps_st (S' := (52, [(0, .ref on)], [.ref on, .ref on], M)) rfl rfl rfl ?_
          refine ps_get (S' := (55, [(0, .ref on)], [.int (nI o), .ref on], M)) rfl h_on rfl rfl ?_
          refine ps_st (S' := (57, [(0, .ref on)], [.int 59, .int (nI o), .ref on], M)) rfl rfl rfl ?_
          refine ps_st (S' := (58, [(0, .ref on)], [.int ((nI o) - 59), .ref on], M)) rfl rfl rfl ?_
          rw [nI_sub1 (p := o) (k := 59) (x := 59) rfl (by omega) (by omega)]
          show pl _ _ _ (_, [(0, .ref on)], [.int (nI (o - 59)), .ref on], M) _
          refine ps_st (S' := (60, [(0, .ref on)], [.int 54, .int (nI (o - 59)), .ref on], M)) rfl rfl rfl ?_
          refine pl_call (a := [.ref on, .int (nI (o - 59)), .int 54]) (rest := []) rfl rfl rfl (dk_isShortLocalTaken (on := on) (b := b) (cb := cb) (L := L) (y3 := (nI o)) (y4 := (nI (szO o))) (y5 := 0) (y6 := 0) (y7 := 0) (y8 := 0) (y9 := (nI pc)) (y10 := y10) (y11 := y11) (t := (o - 59)) (lf := 54) h_on (by omega) (by decide)) (fun v163 M164 q165 => ?_)
          obtain ⟨rfl, h166, f167⟩ := q165
          have h169 := (f167.1 b (nin1 (ob_ne h_b h_on (by decide)))).trans h_b
          have h170 := (f167.1 da (nin1 (Ne.symm (ob_ar h_on h_da)))).trans h_da
          have hF171 := hF.tr f167 (by simp)
          show pl _ _ _ (63, [(0, .ref on)], [.int 1], M164) _
          exact ps_ret rfl rfl (Or.inl ⟨((54 + (o - 59) / 4), (nI ((o - 59) % 4)), 0, (lpO (54 + (o - 59) / 4)), 0, none), by
              unfold opC
              first | ((repeat first | rw [if_pos (by omega)] | rw [if_neg (by omega)]) <;> first | rfl | omega) | ((repeat' split) <;> first | rfl | (exfalso; omega) | omega), rfl, h166, hF171⟩)
    · have c_15 : ¬ (45 < (nI o)) := of_decide_eq_false c_15
      have n_15 : ¬ (45 < o) := fun h9 => c_15 ((lt_nI (p := 45) (n := o) (by decide) (by omega)).mpr h9)
      refine ps_st (S' := (19, [(0, .ref on)], [.ref on], M)) rfl rfl rfl ?_
      refine ps_st (S' := (20, [(0, .ref on)], [.ref on, .ref on], M)) rfl rfl rfl ?_
      refine ps_get (S' := (23, [(0, .ref on)], [.int (nI o), .ref on], M)) rfl h_on rfl rfl ?_
      refine ps_st (S' := (25, [(0, .ref on)], [.int 26, .int (nI o), .ref on], M)) rfl rfl rfl ?_
      refine ps_st (S' := (26, [(0, .ref on)], [.int ((nI o) - 26), .ref on], M)) rfl rfl rfl ?_
      rw [nI_sub1 (p := o) (k := 26) (x := 26) rfl (by omega) (by omega)]
      show pl _ _ _ (_, [(0, .ref on)], [.int (nI (o - 26)), .ref on], M) _
      refine ps_st (S' := (28, [(0, .ref on)], [.int 21, .int (nI (o - 26)), .ref on], M)) rfl rfl rfl ?_
      refine pl_call (a := [.ref on, .int (nI (o - 26)), .int 21]) (rest := []) rfl rfl rfl (dk_isShortLocalTaken (on := on) (b := b) (cb := cb) (L := L) (y3 := (nI o)) (y4 := (nI (szO o))) (y5 := 0) (y6 := 0) (y7 := 0) (y8 := 0) (y9 := (nI pc)) (y10 := y10) (y11 := y11) (t := (o - 26)) (lf := 21) h_on (by omega) (by decide)) (fun v172 M173 q174 => ?_)
      obtain ⟨rfl, h175, f176⟩ := q174
      have h178 := (f176.1 b (nin1 (ob_ne h_b h_on (by decide)))).trans h_b
      have h179 := (f176.1 da (nin1 (Ne.symm (ob_ar h_on h_da)))).trans h_da
      have hF180 := hF.tr f176 (by simp)
      show pl _ _ _ (31, [(0, .ref on)], [.int 1], M173) _
      exact ps_ret rfl rfl (Or.inl ⟨((21 + (o - 26) / 4), (nI ((o - 26) % 4)), 0, (lpO (21 + (o - 26) / 4)), 0, none), by
          unfold opC
          first | ((repeat first | rw [if_pos (by omega)] | rw [if_neg (by omega)]) <;> first | rfl | omega) | ((repeat' split) <;> first | rfl | (exfalso; omega) | omega), rfl, h175, hF180⟩)
set_option maxHeartbeats 1000000 in
theorem dk_isWideTaken {g : xe_G} {M : mi_H} {f : Nat → Int32} {n on b da cb L : Nat} {y10 y11 : Int32} {pc : Nat} (h_on : M.1 on = some (ob 5 [.ref b, .int (nI cb), .int (nI L), .int 196, .int 1, .int 0, .int 0, .int 0, .int 0, .int (nI pc), .int y10, .int y11])) (h_b : M.1 b = some (ob 1 [.ref da])) (h_da : M.1 da = some (ar .byte n f)) (hn : n ≤ 65540) (hcl : cb + L + 4 ≤ n) (hpl : pc < L) : pt (mT g) 99 [.ref on] M (fun v M' => (∃ (x : Nat × Nat × Int32 × Int32), (wiS f cb L pc = some x) ∧ v = some (.int 1) ∧ M'.1 on = some (ob 5 [.ref b, .int (nI cb), .int (nI L), .int (nI x.1), .int (nI x.2.1), .int x.2.2.1, .int x.2.2.2, .int (nI (lpO x.1)), .int 0, .int (nI pc), .int y10, .int y11]) ∧ fm [on] M M') ∨ (∃ (z3 z4 z5 z6 z7 : Int32), (wiS f cb L pc = none) ∧ v = some (.int 0) ∧ M'.1 on = some (ob 5 [.ref b, .int (nI cb), .int (nI L), .int z3, .int z4, .int z5, .int z6, .int z7, .int 0, .int (nI pc), .int y10, .int y11]) ∧ fm [on] M M')) := by
  refine pt_in (b := mb_99 g) rfl (fun kf => ?_)
  show pl (mT g) kf (mb_99 g).2 (0, [(0, .ref on)], [], M) _
  have hF : fm [on] M M := fm.rf
  refine ps_st (S' := (1, [(0, .ref on)], [.ref on], M)) rfl rfl rfl ?_
  refine ps_get (S' := (4, [(0, .ref on)], [.int (nI L)], M)) rfl h_on rfl rfl ?_
  refine ps_st (S' := (5, [(0, .ref on)], [.ref on, .int (nI L)], M)) rfl rfl rfl ?_
  refine ps_get (S' := (8, [(0, .ref on)], [.int (nI pc), .int (nI L)], M)) rfl h_on rfl rfl ?_
  refine ps_st (S' := (9, [(0, .ref on)], [.int ((nI L) - (nI pc))], M)) rfl rfl rfl ?_
  refine ps_st (S' := (10, [(0, .ref on)], [.int 4, .int ((nI L) - (nI pc))], M)) rfl rfl rfl ?_
  refine ps_if2 (S1 := (15, [(0, .ref on)], [], M)) (S2 := (13, [(0, .ref on)], [], M)) rfl rfl rfl (fun c_10 => ?_) (fun c_10 => ?_)
  · have c_10 : 4 ≤ ((nI L) - (nI pc)) := of_decide_eq_true c_10
    have n_10 : 4 + pc ≤ L := (le_sub1 (e := L) (p := pc) (k := 4) (by omega) (by omega) (by omega)).mp c_10
    refine ps_st (S' := (16, [(0, .ref on)], [.ref on], M)) rfl rfl rfl ?_
    refine ps_st (S' := (17, [(0, .ref on)], [.ref on, .ref on], M)) rfl rfl rfl ?_
    refine ps_st (S' := (18, [(0, .ref on)], [.ref on, .ref on, .ref on], M)) rfl rfl rfl ?_
    refine ps_get (S' := (21, [(0, .ref on)], [.int (nI pc), .ref on, .ref on], M)) rfl h_on rfl rfl ?_
    refine ps_st (S' := (22, [(0, .ref on)], [.int 1, .int (nI pc), .ref on, .ref on], M)) rfl rfl rfl ?_
    refine ps_st (S' := (23, [(0, .ref on)], [.int ((nI pc) + 1), .ref on, .ref on], M)) rfl rfl rfl ?_
    rw [nI_add1 (p := pc) (k := 1) (x := 1) rfl (by omega)]
    show pl _ _ _ (_, [(0, .ref on)], [.int (nI (pc + 1)), .ref on, .ref on], M) _
    refine pl_call (a := [.ref on, .int (nI (pc + 1))]) (rest := [.ref on]) rfl rfl rfl (dk_iu1 (f := f) (n := n) (on := on) (b := b) (da := da) (cb := cb) (L := L) (y3 := 196) (y4 := 1) (y5 := 0) (y6 := 0) (y7 := 0) (y8 := 0) (y9 := (nI pc)) (y10 := y10) (y11 := y11) (a := (pc + 1)) h_on h_b h_da (hn) (by omega)) (fun v1 M2 q3 => ?_)
    obtain ⟨rfl, rfl⟩ := q3
    show pl _ _ _ (26, [(0, .ref on)], [.int (nI (by1 f (cb + (pc + 1)))), .ref on], M) _
    have hb_23 := by1_lt f (cb + (pc + 1))
    refine ps_put (l' := [.ref b, .int (nI cb), .int (nI L), .int (nI (by1 f (cb + (pc + 1)))), .int 1, .int 0, .int 0, .int 0, .int 0, .int (nI pc), .int y10, .int y11]) rfl h_on rfl rfl (fun M4 h5 f6 z7 => ?_)
    have h8 := (f6 b (ob_ne h_b h_on (by decide))).trans h_b
    have h9 := (f6 da (Ne.symm (ob_ar h_on h_da))).trans h_da
    have hF10 := hF.up (by simp) f6 z7
    show pl _ _ _ (29, [(0, .ref on)], [], M4) _
    refine ps_st (S' := (30, [(0, .ref on)], [.ref on], M4)) rfl rfl rfl ?_
    refine ps_get (S' := (33, [(0, .ref on)], [.int (nI (by1 f (cb + (pc + 1))))], M4)) rfl h5 rfl rfl ?_
    refine ps_st (S' := (36, [(0, .ref on)], [.int 132, .int (nI (by1 f (cb + (pc + 1))))], M4)) rfl rfl rfl ?_
    refine ps_if2 (S1 := (63, [(0, .ref on)], [], M4)) (S2 := (39, [(0, .ref on)], [], M4)) rfl rfl rfl (fun c_36 => ?_) (fun c_36 => ?_)
    · have c_36 : ¬ (nI (by1 f (cb + (pc + 1)))) = 132 := of_decide_eq_true c_36
      have n_36 : ¬ (by1 f (cb + (pc + 1)) = 132) := fun h9 => c_36 ((eq_nI (p := by1 f (cb + (pc + 1))) (n := 132) (Nat.lt_trans (by1_lt _ _) (by decide)) (by decide)).mpr h9)
      refine ps_st (S' := (64, [(0, .ref on)], [.ref on], M4)) rfl rfl rfl ?_
      refine ps_st (S' := (65, [(0, .ref on)], [.int 4, .ref on], M4)) rfl rfl rfl ?_
      refine ps_put (l' := [.ref b, .int (nI cb), .int (nI L), .int (nI (by1 f (cb + (pc + 1)))), .int 4, .int 0, .int 0, .int 0, .int 0, .int (nI pc), .int y10, .int y11]) rfl h5 rfl rfl (fun M11 h12 f13 z14 => ?_)
      have h15 := (f13 b (ob_ne h8 h5 (by decide))).trans h8
      have h16 := (f13 da (Ne.symm (ob_ar h5 h9))).trans h9
      have hF17 := hF10.up (by simp) f13 z14
      show pl _ _ _ (68, [(0, .ref on)], [], M11) _
      refine ps_st (S' := (69, [(0, .ref on)], [.ref on], M11)) rfl rfl rfl ?_
      refine ps_get (S' := (72, [(0, .ref on)], [.int 4], M11)) rfl h12 rfl rfl ?_
      refine ps_st (S' := (73, [(0, .ref on)], [.ref on, .int 4], M11)) rfl rfl rfl ?_
      refine ps_get (S' := (76, [(0, .ref on)], [.int (nI L), .int 4], M11)) rfl h12 rfl rfl ?_
      refine ps_st (S' := (77, [(0, .ref on)], [.ref on, .int (nI L), .int 4], M11)) rfl rfl rfl ?_
      refine ps_get (S' := (80, [(0, .ref on)], [.int (nI pc), .int (nI L), .int 4], M11)) rfl h12 rfl rfl ?_
      refine ps_st (S' := (81, [(0, .ref on)], [.int ((nI L) - (nI pc)), .int 4], M11)) rfl rfl rfl ?_
      refine ps_if2 (S1 := (104, [], [], M11)) (S2 := (84, [(0, .ref on)], [], M11)) rfl rfl rfl (fun c_81 => ?_) (fun c_81 => ?_)
      · have c_81 : ((nI L) - (nI pc)) < 4 := of_decide_eq_true c_81
        have n_81 : L < pc + 4 := (sub_lt1 (e := L) (p := pc) (k := 4) (by omega) (by omega) (by omega)).mp c_81
        refine ps_st (S' := (105, [], [.int 0], M11)) rfl rfl rfl ?_
        exact ps_ret rfl rfl (Or.inr ⟨_, _, _, _, _, by
            unfold wiS
            first | ((repeat first | rw [if_pos (by omega)] | rw [if_neg (by omega)]) <;> first | rfl | omega) | ((repeat' split) <;> first | rfl | (exfalso; omega) | omega), rfl, h12, hF17⟩)
      · have c_81 : ¬ (((nI L) - (nI pc)) < 4) := of_decide_eq_false c_81
        have n_81 : ¬ (L < pc + 4) := fun h8 => c_81 ((sub_lt1 (e := L) (p := pc) (k := 4) (by omega) (by omega) (by omega)).mpr h8)
        refine ps_st (S' := (85, [(0, .ref on)], [.ref on], M11)) rfl rfl rfl ?_
        refine ps_get (S' := (88, [(0, .ref on)], [.int (nI (by1 f (cb + (pc + 1))))], M11)) rfl h12 rfl rfl ?_
        refine ps_st (S' := (91, [(0, .ref on)], [.int 132, .int (nI (by1 f (cb + (pc + 1))))], M11)) rfl rfl rfl ?_
        refine ps_if2 (S1 := (106, [(0, .ref on)], [], M11)) (S2 := (94, [(0, .ref on)], [], M11)) rfl rfl rfl (fun c_91 => ?_) (fun c_91 => ?_)
        · exact absurd (of_decide_eq_true c_91) (show ¬ ((nI (by1 f (cb + (pc + 1)))) = 132) from fun h9 => absurd ((eq_nI (p := by1 f (cb + (pc + 1))) (n := 132) (Nat.lt_trans (by1_lt _ _) (by decide)) (by decide)).mp h9) (by omega))
        refine ps_st (S' := (95, [(0, .ref on)], [.ref on], M11)) rfl rfl rfl ?_
        refine ps_get (S' := (98, [(0, .ref on)], [.int (nI (by1 f (cb + (pc + 1))))], M11)) rfl h12 rfl rfl ?_
        refine pl_call (a := [.int (nI (by1 f (cb + (pc + 1))))]) (rest := []) rfl rfl rfl (dk_isLocalOpcode (o := (by1 f (cb + (pc + 1)))) (by omega)) (fun v18 M19 q20 => ?_)
        obtain ⟨rfl, rfl⟩ := q20
        show pl _ _ _ (101, [(0, .ref on)], [.int (nI (lcO (by1 f (cb + (pc + 1)))))], M11) _
        have hlc := lcO_le (by1 f (cb + (pc + 1)))
        refine ps_if (S1 := (106, [(0, .ref on)], [], M11)) (S2 := (104, [], [], M11)) rfl rfl rfl (fun c_101 => ?_) (fun c_101 => ?_)
        · have c_101 : ¬ (nI (lcO (by1 f (cb + (pc + 1))))) = 0 := of_decide_eq_true c_101
          have n_101 : ¬ (lcO (by1 f (cb + (pc + 1))) = 0) := fun h9 => c_101 ((eq_nI (p := lcO (by1 f (cb + (pc + 1)))) (n := 0) (by omega) (by decide)).mpr h9)
          refine ps_st (S' := (107, [(0, .ref on)], [.ref on], M11)) rfl rfl rfl ?_
          refine ps_st (S' := (108, [(0, .ref on)], [.ref on, .ref on], M11)) rfl rfl rfl ?_
          refine ps_st (S' := (109, [(0, .ref on)], [.ref on, .ref on, .ref on], M11)) rfl rfl rfl ?_
          refine ps_get (S' := (112, [(0, .ref on)], [.int (nI pc), .ref on, .ref on], M11)) rfl h12 rfl rfl ?_
          refine ps_st (S' := (113, [(0, .ref on)], [.int 2, .int (nI pc), .ref on, .ref on], M11)) rfl rfl rfl ?_
          refine ps_st (S' := (114, [(0, .ref on)], [.int ((nI pc) + 2), .ref on, .ref on], M11)) rfl rfl rfl ?_
          rw [nI_add1 (p := pc) (k := 2) (x := 2) rfl (by omega)]
          show pl _ _ _ (_, [(0, .ref on)], [.int (nI (pc + 2)), .ref on, .ref on], M11) _
          refine pl_call (a := [.ref on, .int (nI (pc + 2))]) (rest := [.ref on]) rfl rfl rfl (dk_iu2 (f := f) (n := n) (on := on) (b := b) (da := da) (cb := cb) (L := L) (y3 := (nI (by1 f (cb + (pc + 1))))) (y4 := 4) (y5 := 0) (y6 := 0) (y7 := 0) (y8 := 0) (y9 := (nI pc)) (y10 := y10) (y11 := y11) (a := (pc + 2)) h12 h15 h16 (hn) (by omega)) (fun v21 M22 q23 => ?_)
          obtain ⟨rfl, rfl⟩ := q23
          show pl _ _ _ (117, [(0, .ref on)], [.int (nI (by2 f (cb + (pc + 2)))), .ref on], M11) _
          have hb_114 := by2_lt f (cb + (pc + 2))
          refine pl_call (a := [.ref on, .int (nI (by2 f (cb + (pc + 2))))]) (rest := []) rfl rfl rfl (dk_isLocalTaken (on := on) (b := b) (cb := cb) (L := L) (y4 := 4) (y5 := 0) (y6 := 0) (y7 := 0) (y8 := 0) (y9 := (nI pc)) (y10 := y10) (y11 := y11) (o := (by1 f (cb + (pc + 1)))) (vv := (nI (by2 f (cb + (pc + 2))))) h12 (by omega)) (fun v24 M25 q26 => ?_)
          obtain ⟨rfl, h27, f28⟩ := q26
          have h30 := (f28.1 b (nin1 (ob_ne h15 h12 (by decide)))).trans h15
          have h31 := (f28.1 da (nin1 (Ne.symm (ob_ar h12 h16)))).trans h16
          have hF32 := hF17.tr f28 (by simp)
          show pl _ _ _ (120, [(0, .ref on)], [.int 1], M25) _
          exact ps_ret rfl rfl (Or.inl ⟨((by1 f (cb + (pc + 1))), 4, (nI (by2 f (cb + (pc + 2)))), 0), by
              unfold wiS
              first | ((repeat first | rw [if_pos (by omega)] | rw [if_neg (by omega)]) <;> first | rfl | omega) | ((repeat' split) <;> first | rfl | (exfalso; omega) | omega), rfl, h27, hF32⟩)
        · have c_101 : ¬ (¬ (nI (lcO (by1 f (cb + (pc + 1))))) = 0) := of_decide_eq_false c_101
          have n_101 : lcO (by1 f (cb + (pc + 1))) = 0 := (eq_nI (p := lcO (by1 f (cb + (pc + 1)))) (n := 0) (by omega) (by decide)).mp (Decidable.not_not.mp c_101)
          refine ps_st (S' := (105, [], [.int 0], M11)) rfl rfl rfl ?_
          exact ps_ret rfl rfl (Or.inr ⟨_, _, _, _, _, by
              unfold wiS
              first | ((repeat first | rw [if_pos (by omega)] | rw [if_neg (by omega)]) <;> first | rfl | omega) | ((repeat' split) <;> first | rfl | (exfalso; omega) | omega), rfl, h12, hF17⟩)
    · have c_36 : ¬ (¬ (nI (by1 f (cb + (pc + 1)))) = 132) := of_decide_eq_false c_36
      have n_36 : by1 f (cb + (pc + 1)) = 132 := (eq_nI (p := by1 f (cb + (pc + 1))) (n := 132) (Nat.lt_trans (by1_lt _ _) (by decide)) (by decide)).mp (Decidable.not_not.mp c_36)
      refine ps_st (S' := (40, [(0, .ref on)], [.ref on], M4)) rfl rfl rfl ?_
      refine ps_st (S' := (42, [(0, .ref on)], [.int 6, .ref on], M4)) rfl rfl rfl ?_
      refine ps_put (l' := [.ref b, .int (nI cb), .int (nI L), .int (nI (by1 f (cb + (pc + 1)))), .int 6, .int 0, .int 0, .int 0, .int 0, .int (nI pc), .int y10, .int y11]) rfl h5 rfl rfl (fun M33 h34 f35 z36 => ?_)
      have h37 := (f35 b (ob_ne h8 h5 (by decide))).trans h8
      have h38 := (f35 da (Ne.symm (ob_ar h5 h9))).trans h9
      have hF39 := hF10.up (by simp) f35 z36
      show pl _ _ _ (45, [(0, .ref on)], [], M33) _
      refine ps_st (S' := (46, [(0, .ref on)], [.ref on], M33)) rfl rfl rfl ?_
      refine ps_st (S' := (47, [(0, .ref on)], [.ref on, .ref on], M33)) rfl rfl rfl ?_
      refine ps_st (S' := (48, [(0, .ref on)], [.ref on, .ref on, .ref on], M33)) rfl rfl rfl ?_
      refine ps_get (S' := (51, [(0, .ref on)], [.int (nI pc), .ref on, .ref on], M33)) rfl h34 rfl rfl ?_
      refine ps_st (S' := (52, [(0, .ref on)], [.int 4, .int (nI pc), .ref on, .ref on], M33)) rfl rfl rfl ?_
      refine ps_st (S' := (53, [(0, .ref on)], [.int ((nI pc) + 4), .ref on, .ref on], M33)) rfl rfl rfl ?_
      rw [nI_add1 (p := pc) (k := 4) (x := 4) rfl (by omega)]
      show pl _ _ _ (_, [(0, .ref on)], [.int (nI (pc + 4)), .ref on, .ref on], M33) _
      refine pl_call (a := [.ref on, .int (nI (pc + 4))]) (rest := [.ref on]) rfl rfl rfl (dk_iu2 (f := f) (n := n) (on := on) (b := b) (da := da) (cb := cb) (L := L) (y3 := (nI (by1 f (cb + (pc + 1))))) (y4 := 6) (y5 := 0) (y6 := 0) (y7 := 0) (y8 := 0) (y9 := (nI pc)) (y10 := y10) (y11 := y11) (a := (pc + 4)) h34 h37 h38 (hn) (by omega)) (fun v40 M41 q42 => ?_)
      obtain ⟨rfl, rfl⟩ := q42
      show pl _ _ _ (56, [(0, .ref on)], [.int (nI (by2 f (cb + (pc + 4)))), .ref on], M33) _
      have hb_53 := by2_lt f (cb + (pc + 4))
      refine ps_st (S' := (57, [(0, .ref on)], [.int ((nI (by2 f (cb + (pc + 4)))).toInt16.toInt32), .ref on], M33)) rfl rfl rfl ?_
      refine ps_put (l' := [.ref b, .int (nI cb), .int (nI L), .int (nI (by1 f (cb + (pc + 1)))), .int 6, .int 0, .int ((nI (by2 f (cb + (pc + 4)))).toInt16.toInt32), .int 0, .int 0, .int (nI pc), .int y10, .int y11]) rfl h34 rfl rfl (fun M43 h44 f45 z46 => ?_)
      have h47 := (f45 b (ob_ne h37 h34 (by decide))).trans h37
      have h48 := (f45 da (Ne.symm (ob_ar h34 h38))).trans h38
      have hF49 := hF39.up (by simp) f45 z46
      show pl _ _ _ (60, [(0, .ref on)], [], M43) _
      refine ps_st (S' := (68, [(0, .ref on)], [], M43)) rfl rfl rfl ?_
      refine ps_st (S' := (69, [(0, .ref on)], [.ref on], M43)) rfl rfl rfl ?_
      refine ps_get (S' := (72, [(0, .ref on)], [.int 6], M43)) rfl h44 rfl rfl ?_
      refine ps_st (S' := (73, [(0, .ref on)], [.ref on, .int 6], M43)) rfl rfl rfl ?_
      refine ps_get (S' := (76, [(0, .ref on)], [.int (nI L), .int 6], M43)) rfl h44 rfl rfl ?_
      refine ps_st (S' := (77, [(0, .ref on)], [.ref on, .int (nI L), .int 6], M43)) rfl rfl rfl ?_
      refine ps_get (S' := (80, [(0, .ref on)], [.int (nI pc), .int (nI L), .int 6], M43)) rfl h44 rfl rfl ?_
      refine ps_st (S' := (81, [(0, .ref on)], [.int ((nI L) - (nI pc)), .int 6], M43)) rfl rfl rfl ?_
      refine ps_if2 (S1 := (104, [], [], M43)) (S2 := (84, [(0, .ref on)], [], M43)) rfl rfl rfl (fun c_81 => ?_) (fun c_81 => ?_)
      · have c_81 : ((nI L) - (nI pc)) < 6 := of_decide_eq_true c_81
        have n_81 : L < pc + 6 := (sub_lt1 (e := L) (p := pc) (k := 6) (by omega) (by omega) (by omega)).mp c_81
        refine ps_st (S' := (105, [], [.int 0], M43)) rfl rfl rfl ?_
        exact ps_ret rfl rfl (Or.inr ⟨_, _, _, _, _, by
            unfold wiS
            first | ((repeat first | rw [if_pos (by omega)] | rw [if_neg (by omega)]) <;> first | rfl | omega) | ((repeat' split) <;> first | rfl | (exfalso; omega) | omega), rfl, h44, hF49⟩)
      · have c_81 : ¬ (((nI L) - (nI pc)) < 6) := of_decide_eq_false c_81
        have n_81 : ¬ (L < pc + 6) := fun h8 => c_81 ((sub_lt1 (e := L) (p := pc) (k := 6) (by omega) (by omega) (by omega)).mpr h8)
        refine ps_st (S' := (85, [(0, .ref on)], [.ref on], M43)) rfl rfl rfl ?_
        refine ps_get (S' := (88, [(0, .ref on)], [.int (nI (by1 f (cb + (pc + 1))))], M43)) rfl h44 rfl rfl ?_
        refine ps_st (S' := (91, [(0, .ref on)], [.int 132, .int (nI (by1 f (cb + (pc + 1))))], M43)) rfl rfl rfl ?_
        refine ps_if2 (S1 := (106, [(0, .ref on)], [], M43)) (S2 := (94, [(0, .ref on)], [], M43)) rfl rfl rfl (fun c_91 => ?_) (fun c_91 => ?_)
        rotate_left
        · exact absurd ((eq_nI (p := by1 f (cb + (pc + 1))) (n := 132) (Nat.lt_trans (by1_lt _ _) (by decide)) (by decide)).mpr (by omega)) (of_decide_eq_false c_91)
        refine ps_st (S' := (107, [(0, .ref on)], [.ref on], M43)) rfl rfl rfl ?_
        refine ps_st (S' := (108, [(0, .ref on)], [.ref on, .ref on], M43)) rfl rfl rfl ?_
        refine ps_st (S' := (109, [(0, .ref on)], [.ref on, .ref on, .ref on], M43)) rfl rfl rfl ?_
        refine ps_get (S' := (112, [(0, .ref on)], [.int (nI pc), .ref on, .ref on], M43)) rfl h44 rfl rfl ?_
        refine ps_st (S' := (113, [(0, .ref on)], [.int 2, .int (nI pc), .ref on, .ref on], M43)) rfl rfl rfl ?_
        refine ps_st (S' := (114, [(0, .ref on)], [.int ((nI pc) + 2), .ref on, .ref on], M43)) rfl rfl rfl ?_
        rw [nI_add1 (p := pc) (k := 2) (x := 2) rfl (by omega)]
        show pl _ _ _ (_, [(0, .ref on)], [.int (nI (pc + 2)), .ref on, .ref on], M43) _
        refine pl_call (a := [.ref on, .int (nI (pc + 2))]) (rest := [.ref on]) rfl rfl rfl (dk_iu2 (f := f) (n := n) (on := on) (b := b) (da := da) (cb := cb) (L := L) (y3 := (nI (by1 f (cb + (pc + 1))))) (y4 := 6) (y5 := 0) (y6 := ((nI (by2 f (cb + (pc + 4)))).toInt16.toInt32)) (y7 := 0) (y8 := 0) (y9 := (nI pc)) (y10 := y10) (y11 := y11) (a := (pc + 2)) h44 h47 h48 (hn) (by omega)) (fun v50 M51 q52 => ?_)
        obtain ⟨rfl, rfl⟩ := q52
        show pl _ _ _ (117, [(0, .ref on)], [.int (nI (by2 f (cb + (pc + 2)))), .ref on], M43) _
        have hb_114 := by2_lt f (cb + (pc + 2))
        refine pl_call (a := [.ref on, .int (nI (by2 f (cb + (pc + 2))))]) (rest := []) rfl rfl rfl (dk_isLocalTaken (on := on) (b := b) (cb := cb) (L := L) (y4 := 6) (y5 := 0) (y6 := ((nI (by2 f (cb + (pc + 4)))).toInt16.toInt32)) (y7 := 0) (y8 := 0) (y9 := (nI pc)) (y10 := y10) (y11 := y11) (o := (by1 f (cb + (pc + 1)))) (vv := (nI (by2 f (cb + (pc + 2))))) h44 (by omega)) (fun v53 M54 q55 => ?_)
        obtain ⟨rfl, h56, f57⟩ := q55
        have h59 := (f57.1 b (nin1 (ob_ne h47 h44 (by decide)))).trans h47
        have h60 := (f57.1 da (nin1 (Ne.symm (ob_ar h44 h48)))).trans h48
        have hF61 := hF49.tr f57 (by simp)
        show pl _ _ _ (120, [(0, .ref on)], [.int 1], M54) _
        exact ps_ret rfl rfl (Or.inl ⟨((by1 f (cb + (pc + 1))), 6, (nI (by2 f (cb + (pc + 2)))), ((nI (by2 f (cb + (pc + 4)))).toInt16.toInt32)), by
            unfold wiS
            first | ((repeat first | rw [if_pos (by omega)] | rw [if_neg (by omega)]) <;> first | rfl | omega) | ((repeat' split) <;> first | rfl | (exfalso; omega) | omega), rfl, h56, hF61⟩)
  · have c_10 : ¬ (4 ≤ ((nI L) - (nI pc))) := of_decide_eq_false c_10
    have n_10 : ¬ (4 + pc ≤ L) := fun h8 => c_10 ((le_sub1 (e := L) (p := pc) (k := 4) (by omega) (by omega) (by omega)).mpr h8)
    refine ps_st (S' := (14, [(0, .ref on)], [.int 0], M)) rfl rfl rfl ?_
    exact ps_ret rfl rfl (Or.inr ⟨_, _, _, _, _, by
        unfold wiS
        first | ((repeat first | rw [if_pos (by omega)] | rw [if_neg (by omega)]) <;> first | rfl | omega) | ((repeat' split) <;> first | rfl | (exfalso; omega) | omega), rfl, h_on, hF⟩)
